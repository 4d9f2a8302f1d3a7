theorem dX12_expression_0 : decode cX12_expression 0 = .ok (.aload_n 0, 1) := by decide +kernel
theorem dX12_expression_1 : decode cX12_expression 1 = .ok (.iload_n 1, 1) := by decide +kernel
theorem dX12_expression_2 : decode cX12_expression 2 = .ok (.invokevirtual 442, 3) := by decide +kernel
theorem dX12_expression_5 : decode cX12_expression 5 = .ok (.istore_n 2, 1) := by decide +kernel
theorem dX12_expression_6 : decode cX12_expression 6 = .ok (.aload_n 0, 1) := by decide +kernel
theorem dX12_expression_7 : decode cX12_expression 7 = .ok (.getfield 389, 3) := by decide +kernel
theorem dX12_expression_10 : decode cX12_expression 10 = .ok (.ifCond .ne 38, 3) := by decide +kernel
theorem dX12_expression_13 : decode cX12_expression 13 = .ok (.aload_n 0, 1) := by decide +kernel
theorem dX12_expression_14 : decode cX12_expression 14 = .ok (.bipush 32, 2) := by decide +kernel
theorem dX12_expression_16 : decode cX12_expression 16 = .ok (.invokevirtual 398, 3) := by decide +kernel
theorem dX12_expression_19 : decode cX12_expression 19 = .ok (.ifCond .eq 29, 3) := by decide +kernel
theorem dX12_expression_22 : decode cX12_expression 22 = .ok (.aload_n 0, 1) := by decide +kernel
theorem dX12_expression_23 : decode cX12_expression 23 = .ok (.dup, 1) := by decide +kernel
theorem dX12_expression_24 : decode cX12_expression 24 = .ok (.getfield 392, 3) := by decide +kernel
theorem dX12_expression_27 : decode cX12_expression 27 = .ok (.iconst 1, 1) := by decide +kernel
theorem dX12_expression_28 : decode cX12_expression 28 = .ok (.iadd, 1) := by decide +kernel
theorem dX12_expression_29 : decode cX12_expression 29 = .ok (.putfield 392, 3) := by decide +kernel
theorem dX12_expression_32 : decode cX12_expression 32 = .ok (.aload_n 0, 1) := by decide +kernel
theorem dX12_expression_33 : decode cX12_expression 33 = .ok (.iconst 3, 1) := by decide +kernel
theorem dX12_expression_34 : decode cX12_expression 34 = .ok (.iload_n 2, 1) := by decide +kernel
theorem dX12_expression_35 : decode cX12_expression 35 = .ok (.aload_n 0, 1) := by decide +kernel
theorem dX12_expression_36 : decode cX12_expression 36 = .ok (.iload_n 1, 1) := by decide +kernel
theorem dX12_expression_37 : decode cX12_expression 37 = .ok (.invokevirtual 442, 3) := by decide +kernel
theorem dX12_expression_40 : decode cX12_expression 40 = .ok (.iconst 0, 1) := by decide +kernel
theorem dX12_expression_41 : decode cX12_expression 41 = .ok (.invokevirtual 446, 3) := by decide +kernel
theorem dX12_expression_44 : decode cX12_expression 44 = .ok (.istore_n 2, 1) := by decide +kernel
theorem dX12_expression_45 : decode cX12_expression 45 = .ok (.goto (-39), 3) := by decide +kernel
theorem dX12_expression_48 : decode cX12_expression 48 = .ok (.iload_n 2, 1) := by decide +kernel
theorem dX12_expression_49 : decode cX12_expression 49 = .ok (.ireturn, 1) := by decide +kernel
theorem dX12_opened_0 : decode cX12_opened 0 = .ok (.aload_n 0, 1) := by decide +kernel
theorem dX12_opened_1 : decode cX12_opened 1 = .ok (.aload_n 0, 1) := by decide +kernel
theorem dX12_opened_2 : decode cX12_opened 2 = .ok (.invokevirtual 439, 3) := by decide +kernel
theorem dX12_opened_5 : decode cX12_opened 5 = .ok (.invokevirtual 450, 3) := by decide +kernel
theorem dX12_opened_8 : decode cX12_opened 8 = .ok (.aload_n 0, 1) := by decide +kernel
theorem dX12_opened_9 : decode cX12_opened 9 = .ok (.iload_n 1, 1) := by decide +kernel
theorem dX12_opened_10 : decode cX12_opened 10 = .ok (.invokevirtual 442, 3) := by decide +kernel
theorem dX12_opened_13 : decode cX12_opened 13 = .ok (.istore_n 2, 1) := by decide +kernel
theorem dX12_opened_14 : decode cX12_opened 14 = .ok (.aload_n 0, 1) := by decide +kernel
theorem dX12_opened_15 : decode cX12_opened 15 = .ok (.invokevirtual 454, 3) := by decide +kernel
theorem dX12_opened_18 : decode cX12_opened 18 = .ok (.iload_n 2, 1) := by decide +kernel
theorem dX12_opened_19 : decode cX12_opened 19 = .ok (.ireturn, 1) := by decide +kernel
theorem dX12_assigned_0 : decode cX12_assigned 0 = .ok (.aload_n 0, 1) := by decide +kernel
theorem dX12_assigned_1 : decode cX12_assigned 1 = .ok (.iload_n 1, 1) := by decide +kernel
theorem dX12_assigned_2 : decode cX12_assigned 2 = .ok (.invokevirtual 457, 3) := by decide +kernel
theorem dX12_assigned_5 : decode cX12_assigned 5 = .ok (.istore_n 2, 1) := by decide +kernel
theorem dX12_assigned_6 : decode cX12_assigned 6 = .ok (.aload_n 0, 1) := by decide +kernel
theorem dX12_assigned_7 : decode cX12_assigned 7 = .ok (.getfield 389, 3) := by decide +kernel
theorem dX12_assigned_10 : decode cX12_assigned 10 = .ok (.ifCond .le 5, 3) := by decide +kernel
theorem dX12_assigned_13 : decode cX12_assigned 13 = .ok (.iconst (-1), 1) := by decide +kernel
theorem dX12_assigned_14 : decode cX12_assigned 14 = .ok (.ireturn, 1) := by decide +kernel
theorem dX12_assigned_15 : decode cX12_assigned 15 = .ok (.aload_n 0, 1) := by decide +kernel
theorem dX12_assigned_16 : decode cX12_assigned 16 = .ok (.invokevirtual 460, 3) := by decide +kernel
theorem dX12_assigned_19 : decode cX12_assigned 19 = .ok (.istore_n 3, 1) := by decide +kernel
theorem dX12_assigned_20 : decode cX12_assigned 20 = .ok (.iload_n 3, 1) := by decide +kernel
theorem dX12_assigned_21 : decode cX12_assigned 21 = .ok (.iconst (-1), 1) := by decide +kernel
theorem dX12_assigned_22 : decode cX12_assigned 22 = .ok (.if_icmp .ne 5, 3) := by decide +kernel
theorem dX12_assigned_25 : decode cX12_assigned 25 = .ok (.iload_n 2, 1) := by decide +kernel
theorem dX12_assigned_26 : decode cX12_assigned 26 = .ok (.ireturn, 1) := by decide +kernel
theorem dX12_assigned_27 : decode cX12_assigned 27 = .ok (.aload_n 0, 1) := by decide +kernel
theorem dX12_assigned_28 : decode cX12_assigned 28 = .ok (.iload_n 2, 1) := by decide +kernel
theorem dX12_assigned_29 : decode cX12_assigned 29 = .ok (.invokevirtual 463, 3) := by decide +kernel
theorem dX12_assigned_32 : decode cX12_assigned 32 = .ok (.ifCond .ne 11, 3) := by decide +kernel
theorem dX12_assigned_35 : decode cX12_assigned 35 = .ok (.aload_n 0, 1) := by decide +kernel
theorem dX12_assigned_36 : decode cX12_assigned 36 = .ok (.iconst 3, 1) := by decide +kernel
theorem dX12_assigned_37 : decode cX12_assigned 37 = .ok (.invokevirtual 401, 3) := by decide +kernel
theorem dX12_assigned_40 : decode cX12_assigned 40 = .ok (.pop, 1) := by decide +kernel
theorem dX12_assigned_41 : decode cX12_assigned 41 = .ok (.iconst (-1), 1) := by decide +kernel
theorem dX12_assigned_42 : decode cX12_assigned 42 = .ok (.ireturn, 1) := by decide +kernel
theorem dX12_assigned_43 : decode cX12_assigned 43 = .ok (.aload_n 0, 1) := by decide +kernel
theorem dX12_assigned_44 : decode cX12_assigned 44 = .ok (.dup, 1) := by decide +kernel
theorem dX12_assigned_45 : decode cX12_assigned 45 = .ok (.getfield 392, 3) := by decide +kernel
theorem dX12_assigned_48 : decode cX12_assigned 48 = .ok (.iconst 1, 1) := by decide +kernel
theorem dX12_assigned_49 : decode cX12_assigned 49 = .ok (.iadd, 1) := by decide +kernel
theorem dX12_assigned_50 : decode cX12_assigned 50 = .ok (.putfield 392, 3) := by decide +kernel
theorem dX12_assigned_53 : decode cX12_assigned 53 = .ok (.aload_n 0, 1) := by decide +kernel
theorem dX12_assigned_54 : decode cX12_assigned 54 = .ok (.bipush 15, 2) := by decide +kernel
theorem dX12_assigned_56 : decode cX12_assigned 56 = .ok (.iload_n 3, 1) := by decide +kernel
theorem dX12_assigned_57 : decode cX12_assigned 57 = .ok (.bipush 99, 2) := by decide +kernel
theorem dX12_assigned_59 : decode cX12_assigned 59 = .ok (.if_icmp .ne 7, 3) := by decide +kernel
theorem dX12_assigned_62 : decode cX12_assigned 62 = .ok (.iconst (-1), 1) := by decide +kernel
theorem dX12_assigned_63 : decode cX12_assigned 63 = .ok (.goto 4, 3) := by decide +kernel
theorem dX12_assigned_66 : decode cX12_assigned 66 = .ok (.iload_n 3, 1) := by decide +kernel
theorem dX12_assigned_67 : decode cX12_assigned 67 = .ok (.iload_n 2, 1) := by decide +kernel
theorem dX12_assigned_68 : decode cX12_assigned 68 = .ok (.aload_n 0, 1) := by decide +kernel
theorem dX12_assigned_69 : decode cX12_assigned 69 = .ok (.iload_n 1, 1) := by decide +kernel
theorem dX12_assigned_70 : decode cX12_assigned 70 = .ok (.invokevirtual 466, 3) := by decide +kernel
theorem dX12_assigned_73 : decode cX12_assigned 73 = .ok (.invokevirtual 446, 3) := by decide +kernel
theorem dX12_assigned_76 : decode cX12_assigned 76 = .ok (.ireturn, 1) := by decide +kernel
theorem dX12_conditional_0 : decode cX12_conditional 0 = .ok (.aload_n 0, 1) := by decide +kernel
theorem dX12_conditional_1 : decode cX12_conditional 1 = .ok (.iconst 0, 1) := by decide +kernel
theorem dX12_conditional_2 : decode cX12_conditional 2 = .ok (.iload_n 1, 1) := by decide +kernel
theorem dX12_conditional_3 : decode cX12_conditional 3 = .ok (.invokevirtual 469, 3) := by decide +kernel
theorem dX12_conditional_6 : decode cX12_conditional 6 = .ok (.istore_n 2, 1) := by decide +kernel
theorem dX12_conditional_7 : decode cX12_conditional 7 = .ok (.aload_n 0, 1) := by decide +kernel
theorem dX12_conditional_8 : decode cX12_conditional 8 = .ok (.getfield 389, 3) := by decide +kernel
theorem dX12_conditional_11 : decode cX12_conditional 11 = .ok (.ifCond .gt 12, 3) := by decide +kernel
theorem dX12_conditional_14 : decode cX12_conditional 14 = .ok (.aload_n 0, 1) := by decide +kernel
theorem dX12_conditional_15 : decode cX12_conditional 15 = .ok (.bipush 45, 2) := by decide +kernel
theorem dX12_conditional_17 : decode cX12_conditional 17 = .ok (.invokevirtual 398, 3) := by decide +kernel
theorem dX12_conditional_20 : decode cX12_conditional 20 = .ok (.ifCond .ne 5, 3) := by decide +kernel
theorem dX12_conditional_23 : decode cX12_conditional 23 = .ok (.iload_n 2, 1) := by decide +kernel
theorem dX12_conditional_24 : decode cX12_conditional 24 = .ok (.ireturn, 1) := by decide +kernel
theorem dX12_conditional_25 : decode cX12_conditional 25 = .ok (.aload_n 0, 1) := by decide +kernel
theorem dX12_conditional_26 : decode cX12_conditional 26 = .ok (.dup, 1) := by decide +kernel
theorem dX12_conditional_27 : decode cX12_conditional 27 = .ok (.getfield 392, 3) := by decide +kernel
theorem dX12_conditional_30 : decode cX12_conditional 30 = .ok (.iconst 1, 1) := by decide +kernel
theorem dX12_conditional_31 : decode cX12_conditional 31 = .ok (.iadd, 1) := by decide +kernel
theorem dX12_conditional_32 : decode cX12_conditional 32 = .ok (.putfield 392, 3) := by decide +kernel
theorem dX12_conditional_35 : decode cX12_conditional 35 = .ok (.aload_n 0, 1) := by decide +kernel
theorem dX12_conditional_36 : decode cX12_conditional 36 = .ok (.iload_n 1, 1) := by decide +kernel
theorem dX12_conditional_37 : decode cX12_conditional 37 = .ok (.invokevirtual 466, 3) := by decide +kernel
theorem dX12_conditional_40 : decode cX12_conditional 40 = .ok (.istore_n 3, 1) := by decide +kernel
theorem dX12_conditional_41 : decode cX12_conditional 41 = .ok (.aload_n 0, 1) := by decide +kernel
theorem dX12_conditional_42 : decode cX12_conditional 42 = .ok (.bipush 46, 2) := by decide +kernel
theorem dX12_conditional_44 : decode cX12_conditional 44 = .ok (.invokevirtual 473, 3) := by decide +kernel
theorem dX12_conditional_47 : decode cX12_conditional 47 = .ok (.ifCond .ne 5, 3) := by decide +kernel
theorem dX12_conditional_50 : decode cX12_conditional 50 = .ok (.iconst (-1), 1) := by decide +kernel
theorem dX12_conditional_51 : decode cX12_conditional 51 = .ok (.ireturn, 1) := by decide +kernel
theorem dX12_conditional_52 : decode cX12_conditional 52 = .ok (.aload_n 0, 1) := by decide +kernel
theorem dX12_conditional_53 : decode cX12_conditional 53 = .ok (.bipush 14, 2) := by decide +kernel
theorem dX12_conditional_55 : decode cX12_conditional 55 = .ok (.iload_n 2, 1) := by decide +kernel
theorem dX12_conditional_56 : decode cX12_conditional 56 = .ok (.iload_n 3, 1) := by decide +kernel
theorem dX12_conditional_57 : decode cX12_conditional 57 = .ok (.aload_n 0, 1) := by decide +kernel
theorem dX12_conditional_58 : decode cX12_conditional 58 = .ok (.iload_n 1, 1) := by decide +kernel
theorem dX12_conditional_59 : decode cX12_conditional 59 = .ok (.invokevirtual 466, 3) := by decide +kernel
theorem dX12_conditional_62 : decode cX12_conditional 62 = .ok (.invokevirtual 446, 3) := by decide +kernel
theorem dX12_conditional_65 : decode cX12_conditional 65 = .ok (.ireturn, 1) := by decide +kernel
def q_expression (p1 : Int) (S : sv_S) : Option Value → sv_S → Prop := fun v S' => ∃ r : Int, v = some (sv_I r) ∧ sv_R r ∧ sm_ok S' ∧ sv_mod [1020, 1021, 1022, 1023, 5, 1011, 3, 4, 1007, 1009, 11, 12, 13, 14, 1024, 15, 16, 1031, 1032, 17, 18, 19, 20, 21, 22, 23, 24, 25, 1042, 1043, 1044, 1045, 1100001, 1100002, 1100005, 1100003, 1100004, 1100018, 1100019, 1100016, 1100035, 1100036] S S' ∧ ((S 1020 0) ≤ (S' 1020 0) ∧ (S' 1020 0) < (S' 1012 0) ∧ 0 ≤ (S' 1021 0) ∧ (0 < (S 1021 0) → 0 < (S' 1021 0)) ∧ (S 1007 0) ≤ (S' 1007 0) ∧ (S' 1007 0) ≤ 90 ∧ sm_LN (S' 4) 400 (S' 1007 0) ∧ ((S 1009 0) = 1 → (S' 1009 0) = 1) ∧ ((S' 1021 0) = 0 → sm_WF (S' 11) (S' 12) (S' 13) (S' 1100001) (S' 1100002) (S' 1100005) (S' 1100003) (S' 1100004) (S' 1024 0) (S' 1007 0) (S' 1009 0) (sm_fn (S' 1032 0) (S' 21) (S' 1043 0)) ∧ sm_PX (S 11) (S 12) (S 13) (S 1100001) (S 1100002) (S 1100005) (S 1100003) (S 1100004) (S' 11) (S' 12) (S' 13) (S' 1100001) (S' 1100002) (S' 1100005) (S' 1100003) (S' 1100004) (S 1024 0) ∧ sm_FT (S' 11) (S' 12) (S' 13) (S' 1100019) (S' 17) (S' 18) (S' 21) (S' 19) (S' 20) (S' 22) (S' 1100016) (S' 1024 0) (S' 1007 0) (S' 1009 0) (S' 1032 0) (S' 1032 0) ∧ sm_WG (S' 1100001) (S' 1100019) (S' 1043 0) ∧ sm_F1 (S 1100019) (S' 1100019) (S 1024 0) ∧ sm_F1 (S 1100035) (S' 1100035) (S 1024 0) ∧ sm_F1 (S 17) (S' 17) (S 1032 0) ∧ sm_F1 (S 18) (S' 18) (S 1032 0) ∧ sm_F1 (S 21) (S' 21) (S 1032 0) ∧ sm_F1 (S 20) (S' 20) (S 1032 0) ∧ sm_F1 (S 22) (S' 22) (S 1032 0) ∧ sm_F1 (S 1100016) (S' 1100016) (S 1032 0) ∧ sm_F1 (S 19) (S' 19) (8 * (S 1032 0)) ∧ sm_FN (S' 1100016) (S 1032 0) (S' 1032 0) ∧ sm_RG (S' 11) (S' 12) (S' 13) (S' 1100035) (S' 1024 0)) ∧ (S' 1100036 0) = (S 1100036 0) ∧ sm_KL (S 15) (S 16) (S' 15) (S' 16) (S 1031 0) ∧ sm_HD (S' 23) (S' 24) (S' 1100018 0) (S' 1007 0) ∧ sm_HD (S' 25) (fun _ : Int => (S' 1042 0)) 1 (S' 1007 0) ∧ (S' 1031 0) = (S 1031 0) ∧ (S' 1043 0) = (S 1043 0) ∧ (S' 1044 0) = (S 1044 0) ∧ (S' 1045 0) = (S 1045 0) ∧ (S 1032 0) ≤ (S' 1032 0) ∧ (S' 1032 0) ≤ 1 + (S' 1020 0) ∧ (S' 1100018 0) = (S' 1032 0) ∧ (S 1024 0) ≤ (S' 1024 0) ∧ ((S' 1021 0) = 0 → (S' 1023 0) = (S 1023 0) ∧ (S' 1024 0) + 1 ≤ (S 1024 0) + 2 * ((S' 1020 0) - (S 1020 0))) ∧ (0 < (S' 1021 0) → (S' 1024 0) ≤ (S 1024 0) + 2 * ((S' 1020 0) - (S 1020 0)) + 2 * (30 * (20 - (S 1023 0)) + 26)) ∧ -1 ≤ r ∧ r < 12000 ∧ ((S' 1021 0) = 0 → (S 1020 0) < (S' 1020 0) ∧ 1 ≤ (S 6 (S 1020 0)) ∧ sm_ex (S' 1100001) (S' 1100002) (S' 1100005) (S' 1024 0) 1 r (17 * (20 - (S 1023 0)) + 17) (20 - (S 1023 0)) ∧ ((S' 11 r) = 2 ∨ (S' 11 r) = 7 → (S' 1100002 r) ≤ 17 * (20 - (S 1023 0)) + 2)))
def T_expression (d : Int) : Prop := ∀ (p1 : Int) (S : sv_S), sm_ok S → (0 ≤ p1 ∧ p1 ≤ 1) → (0 ≤ (S 1020 0) ∧ (S 1020 0) < (S 1012 0) ∧ sm_TK (S 6) (S 8) (S 9) (S 10) (S 1012 0) ∧ 0 ≤ (S 1021 0) ∧ 0 ≤ (S 1004 0) ∧ (S 1004 0) ≤ 4000 ∧ 1 ≤ (S 1007 0) ∧ (S 1007 0) ≤ 90 ∧ sm_LN (S 4) 400 (S 1007 0) ∧ ((S 1021 0) = 0 → sm_WF (S 11) (S 12) (S 13) (S 1100001) (S 1100002) (S 1100005) (S 1100003) (S 1100004) (S 1024 0) (S 1007 0) (S 1009 0) (sm_fn (S 1032 0) (S 21) (S 1043 0)) ∧ sm_FT (S 11) (S 12) (S 13) (S 1100019) (S 17) (S 18) (S 21) (S 19) (S 20) (S 22) (S 1100016) (S 1024 0) (S 1007 0) (S 1009 0) (S 1032 0) (S 1032 0) ∧ sm_WG (S 1100001) (S 1100019) (S 1043 0) ∧ (S 1100016 (S 1043 0)) = 0 ∧ sm_RG (S 11) (S 12) (S 13) (S 1100035) (S 1024 0)) ∧ -1 ≤ (S 1100036 0) ∧ (S 1100036 0) < (S 1024 0) ∧ sm_HD (S 23) (S 24) (S 1100018 0) (S 1007 0) ∧ sm_HD (S 25) (fun _ : Int => (S 1042 0)) 1 (S 1007 0) ∧ 0 ≤ (S 1043 0) ∧ (S 1043 0) < (S 1100018 0) ∧ (S 1100018 0) = (S 1032 0) ∧ (S 1032 0) ≤ 1 + (S 1020 0) ∧ 0 ≤ (S 1031 0) ∧ (S 1031 0) ≤ 100 ∧ 0 ≤ (S 1044 0) ∧ (S 1044 0) ≤ 30 ∧ 0 ≤ (S 1045 0) ∧ (S 1045 0) ≤ 30 ∧ 0 ≤ (S 1024 0) ∧ ((S 1021 0) = 0 → 0 ≤ (S 1023 0) ∧ (S 1023 0) ≤ 20 ∧ (S 1031 0) ≤ 3 * (S 1023 0) + 5 ∧ (S 1024 0) ≤ 2 * (S 1020 0) ∧ (S 1044 0) ≤ (S 1023 0) ∧ (S 1045 0) ≤ (S 1023 0)) ∧ (S 1021 0) = 0) → (30 * (20 - (S 1023 0)) + 26) = d → sv_T sm_XS sm_cs sm_L sm_sh (30 * (20 - (S 1023 0)) + 26).toNat (q_expression p1 S) 43 0 (lv_args 0 [.ref 0, sv_I p1]) [] S
def q_opened (p1 : Int) (S : sv_S) : Option Value → sv_S → Prop := fun v S' => ∃ r : Int, v = some (sv_I r) ∧ sv_R r ∧ sm_ok S' ∧ sv_mod [1020, 1021, 1022, 1023, 5, 1011, 3, 4, 1007, 1009, 11, 12, 13, 14, 1024, 15, 16, 1031, 1032, 17, 18, 19, 20, 21, 22, 23, 24, 25, 1042, 1043, 1044, 1045, 1100001, 1100002, 1100005, 1100003, 1100004, 1100018, 1100019, 1100016, 1100035, 1100036] S S' ∧ ((S 1020 0) ≤ (S' 1020 0) ∧ (S' 1020 0) < (S' 1012 0) ∧ 0 ≤ (S' 1021 0) ∧ (0 < (S 1021 0) → 0 < (S' 1021 0)) ∧ (S 1007 0) ≤ (S' 1007 0) ∧ (S' 1007 0) ≤ 90 ∧ sm_LN (S' 4) 400 (S' 1007 0) ∧ ((S 1009 0) = 1 → (S' 1009 0) = 1) ∧ ((S' 1021 0) = 0 → sm_WF (S' 11) (S' 12) (S' 13) (S' 1100001) (S' 1100002) (S' 1100005) (S' 1100003) (S' 1100004) (S' 1024 0) (S' 1007 0) (S' 1009 0) (sm_fn (S' 1032 0) (S' 21) (S' 1043 0)) ∧ sm_PX (S 11) (S 12) (S 13) (S 1100001) (S 1100002) (S 1100005) (S 1100003) (S 1100004) (S' 11) (S' 12) (S' 13) (S' 1100001) (S' 1100002) (S' 1100005) (S' 1100003) (S' 1100004) (S 1024 0) ∧ sm_FT (S' 11) (S' 12) (S' 13) (S' 1100019) (S' 17) (S' 18) (S' 21) (S' 19) (S' 20) (S' 22) (S' 1100016) (S' 1024 0) (S' 1007 0) (S' 1009 0) (S' 1032 0) (S' 1032 0) ∧ sm_WG (S' 1100001) (S' 1100019) (S' 1043 0) ∧ sm_F1 (S 1100019) (S' 1100019) (S 1024 0) ∧ sm_F1 (S 1100035) (S' 1100035) (S 1024 0) ∧ sm_F1 (S 17) (S' 17) (S 1032 0) ∧ sm_F1 (S 18) (S' 18) (S 1032 0) ∧ sm_F1 (S 21) (S' 21) (S 1032 0) ∧ sm_F1 (S 20) (S' 20) (S 1032 0) ∧ sm_F1 (S 22) (S' 22) (S 1032 0) ∧ sm_F1 (S 1100016) (S' 1100016) (S 1032 0) ∧ sm_F1 (S 19) (S' 19) (8 * (S 1032 0)) ∧ sm_FN (S' 1100016) (S 1032 0) (S' 1032 0) ∧ sm_RG (S' 11) (S' 12) (S' 13) (S' 1100035) (S' 1024 0)) ∧ (S' 1100036 0) = (S 1100036 0) ∧ sm_KL (S 15) (S 16) (S' 15) (S' 16) (S 1031 0) ∧ sm_HD (S' 23) (S' 24) (S' 1100018 0) (S' 1007 0) ∧ sm_HD (S' 25) (fun _ : Int => (S' 1042 0)) 1 (S' 1007 0) ∧ (S' 1031 0) = (S 1031 0) ∧ (S' 1043 0) = (S 1043 0) ∧ (S' 1044 0) = (S 1044 0) ∧ (S' 1045 0) = (S 1045 0) ∧ (S 1032 0) ≤ (S' 1032 0) ∧ (S' 1032 0) ≤ 1 + (S' 1020 0) ∧ (S' 1100018 0) = (S' 1032 0) ∧ (S 1024 0) ≤ (S' 1024 0) ∧ ((S' 1021 0) = 0 → (S' 1023 0) = (S 1023 0) ∧ (S' 1024 0) + 1 ≤ (S 1024 0) + 2 * ((S' 1020 0) - (S 1020 0))) ∧ (0 < (S' 1021 0) → (S' 1024 0) ≤ (S 1024 0) + 2 * ((S' 1020 0) - (S 1020 0)) + 2 * (30 * (20 - (S 1023 0)) + 14)) ∧ -1 ≤ r ∧ r < 12000 ∧ ((S' 1021 0) = 0 → sm_ex (S' 1100001) (S' 1100002) (S' 1100005) (S' 1024 0) 1 r (17 * (20 - (S 1023 0))) (19 - (S 1023 0)) ∧ (S 1020 0) < (S' 1020 0)))
def T_opened (d : Int) : Prop := ∀ (p1 : Int) (S : sv_S), sm_ok S → (0 ≤ p1 ∧ p1 ≤ 1) → (0 ≤ (S 1020 0) ∧ (S 1020 0) < (S 1012 0) ∧ sm_TK (S 6) (S 8) (S 9) (S 10) (S 1012 0) ∧ 0 ≤ (S 1021 0) ∧ 0 ≤ (S 1004 0) ∧ (S 1004 0) ≤ 4000 ∧ 1 ≤ (S 1007 0) ∧ (S 1007 0) ≤ 90 ∧ sm_LN (S 4) 400 (S 1007 0) ∧ ((S 1021 0) = 0 → sm_WF (S 11) (S 12) (S 13) (S 1100001) (S 1100002) (S 1100005) (S 1100003) (S 1100004) (S 1024 0) (S 1007 0) (S 1009 0) (sm_fn (S 1032 0) (S 21) (S 1043 0)) ∧ sm_FT (S 11) (S 12) (S 13) (S 1100019) (S 17) (S 18) (S 21) (S 19) (S 20) (S 22) (S 1100016) (S 1024 0) (S 1007 0) (S 1009 0) (S 1032 0) (S 1032 0) ∧ sm_WG (S 1100001) (S 1100019) (S 1043 0) ∧ (S 1100016 (S 1043 0)) = 0 ∧ sm_RG (S 11) (S 12) (S 13) (S 1100035) (S 1024 0)) ∧ -1 ≤ (S 1100036 0) ∧ (S 1100036 0) < (S 1024 0) ∧ sm_HD (S 23) (S 24) (S 1100018 0) (S 1007 0) ∧ sm_HD (S 25) (fun _ : Int => (S 1042 0)) 1 (S 1007 0) ∧ 0 ≤ (S 1043 0) ∧ (S 1043 0) < (S 1100018 0) ∧ (S 1100018 0) = (S 1032 0) ∧ (S 1032 0) ≤ 1 + (S 1020 0) ∧ 0 ≤ (S 1031 0) ∧ (S 1031 0) ≤ 100 ∧ 0 ≤ (S 1044 0) ∧ (S 1044 0) ≤ 30 ∧ 0 ≤ (S 1045 0) ∧ (S 1045 0) ≤ 30 ∧ 0 ≤ (S 1024 0) ∧ ((S 1021 0) = 0 → 0 ≤ (S 1023 0) ∧ (S 1023 0) ≤ 20 ∧ (S 1031 0) ≤ 3 * (S 1023 0) + 5 ∧ (S 1024 0) ≤ 2 * (S 1020 0) ∧ (S 1044 0) ≤ (S 1023 0) ∧ (S 1045 0) ≤ (S 1023 0)) ∧ (S 1021 0) = 0) → (30 * (20 - (S 1023 0)) + 14) = d → sv_T sm_XS sm_cs sm_L sm_sh (30 * (20 - (S 1023 0)) + 14).toNat (q_opened p1 S) 46 0 (lv_args 0 [.ref 0, sv_I p1]) [] S
def q_assigned (p1 : Int) (S : sv_S) : Option Value → sv_S → Prop := fun v S' => ∃ r : Int, v = some (sv_I r) ∧ sv_R r ∧ sm_ok S' ∧ sv_mod [1020, 1021, 1022, 1023, 5, 1011, 3, 4, 1007, 1009, 11, 12, 13, 14, 1024, 15, 16, 1031, 1032, 17, 18, 19, 20, 21, 22, 23, 24, 25, 1042, 1043, 1044, 1045, 1100001, 1100002, 1100005, 1100003, 1100004, 1100018, 1100019, 1100016, 1100035, 1100036] S S' ∧ ((S 1020 0) ≤ (S' 1020 0) ∧ (S' 1020 0) < (S' 1012 0) ∧ 0 ≤ (S' 1021 0) ∧ (0 < (S 1021 0) → 0 < (S' 1021 0)) ∧ (S 1007 0) ≤ (S' 1007 0) ∧ (S' 1007 0) ≤ 90 ∧ sm_LN (S' 4) 400 (S' 1007 0) ∧ ((S 1009 0) = 1 → (S' 1009 0) = 1) ∧ ((S' 1021 0) = 0 → sm_WF (S' 11) (S' 12) (S' 13) (S' 1100001) (S' 1100002) (S' 1100005) (S' 1100003) (S' 1100004) (S' 1024 0) (S' 1007 0) (S' 1009 0) (sm_fn (S' 1032 0) (S' 21) (S' 1043 0)) ∧ sm_PX (S 11) (S 12) (S 13) (S 1100001) (S 1100002) (S 1100005) (S 1100003) (S 1100004) (S' 11) (S' 12) (S' 13) (S' 1100001) (S' 1100002) (S' 1100005) (S' 1100003) (S' 1100004) (S 1024 0) ∧ sm_FT (S' 11) (S' 12) (S' 13) (S' 1100019) (S' 17) (S' 18) (S' 21) (S' 19) (S' 20) (S' 22) (S' 1100016) (S' 1024 0) (S' 1007 0) (S' 1009 0) (S' 1032 0) (S' 1032 0) ∧ sm_WG (S' 1100001) (S' 1100019) (S' 1043 0) ∧ sm_F1 (S 1100019) (S' 1100019) (S 1024 0) ∧ sm_F1 (S 1100035) (S' 1100035) (S 1024 0) ∧ sm_F1 (S 17) (S' 17) (S 1032 0) ∧ sm_F1 (S 18) (S' 18) (S 1032 0) ∧ sm_F1 (S 21) (S' 21) (S 1032 0) ∧ sm_F1 (S 20) (S' 20) (S 1032 0) ∧ sm_F1 (S 22) (S' 22) (S 1032 0) ∧ sm_F1 (S 1100016) (S' 1100016) (S 1032 0) ∧ sm_F1 (S 19) (S' 19) (8 * (S 1032 0)) ∧ sm_FN (S' 1100016) (S 1032 0) (S' 1032 0) ∧ sm_RG (S' 11) (S' 12) (S' 13) (S' 1100035) (S' 1024 0)) ∧ (S' 1100036 0) = (S 1100036 0) ∧ sm_KL (S 15) (S 16) (S' 15) (S' 16) (S 1031 0) ∧ sm_HD (S' 23) (S' 24) (S' 1100018 0) (S' 1007 0) ∧ sm_HD (S' 25) (fun _ : Int => (S' 1042 0)) 1 (S' 1007 0) ∧ (S' 1031 0) = (S 1031 0) ∧ (S' 1043 0) = (S 1043 0) ∧ (S' 1044 0) = (S 1044 0) ∧ (S' 1045 0) = (S 1045 0) ∧ (S 1032 0) ≤ (S' 1032 0) ∧ (S' 1032 0) ≤ 1 + (S' 1020 0) ∧ (S' 1100018 0) = (S' 1032 0) ∧ (S 1024 0) ≤ (S' 1024 0) ∧ ((S' 1021 0) = 0 → (S' 1023 0) = (S 1023 0) ∧ (S' 1024 0) + 1 ≤ (S 1024 0) + 2 * ((S' 1020 0) - (S 1020 0))) ∧ (0 < (S' 1021 0) → (S' 1024 0) ≤ (S 1024 0) + 2 * ((S' 1020 0) - (S 1020 0)) + 2 * ((if 0 < (S 1021 0) then 12 else 30 * (20 - (S 1023 0)) + 25))) ∧ -1 ≤ r ∧ r < 12000 ∧ ((S' 1021 0) = 0 → (S 1020 0) < (S' 1020 0) ∧ 1 ≤ (S 6 (S 1020 0)) ∧ sm_ex (S' 1100001) (S' 1100002) (S' 1100005) (S' 1024 0) 1 r (17 * (20 - (S 1023 0)) + 17) (20 - (S 1023 0)) ∧ ((S' 11 r) = 2 ∨ (S' 11 r) = 7 → (S' 1100002 r) ≤ 17 * (20 - (S 1023 0)) + 2)) ∧ (0 < (S 1021 0) → (S' 1020 0) = (S 1020 0) ∧ (S' 1024 0) = (S 1024 0)))
def T_assigned (d : Int) : Prop := ∀ (p1 : Int) (S : sv_S), sm_ok S → (0 ≤ p1 ∧ p1 ≤ 1) → (0 ≤ (S 1020 0) ∧ (S 1020 0) < (S 1012 0) ∧ sm_TK (S 6) (S 8) (S 9) (S 10) (S 1012 0) ∧ 0 ≤ (S 1021 0) ∧ 0 ≤ (S 1004 0) ∧ (S 1004 0) ≤ 4000 ∧ 1 ≤ (S 1007 0) ∧ (S 1007 0) ≤ 90 ∧ sm_LN (S 4) 400 (S 1007 0) ∧ ((S 1021 0) = 0 → sm_WF (S 11) (S 12) (S 13) (S 1100001) (S 1100002) (S 1100005) (S 1100003) (S 1100004) (S 1024 0) (S 1007 0) (S 1009 0) (sm_fn (S 1032 0) (S 21) (S 1043 0)) ∧ sm_FT (S 11) (S 12) (S 13) (S 1100019) (S 17) (S 18) (S 21) (S 19) (S 20) (S 22) (S 1100016) (S 1024 0) (S 1007 0) (S 1009 0) (S 1032 0) (S 1032 0) ∧ sm_WG (S 1100001) (S 1100019) (S 1043 0) ∧ (S 1100016 (S 1043 0)) = 0 ∧ sm_RG (S 11) (S 12) (S 13) (S 1100035) (S 1024 0)) ∧ -1 ≤ (S 1100036 0) ∧ (S 1100036 0) < (S 1024 0) ∧ sm_HD (S 23) (S 24) (S 1100018 0) (S 1007 0) ∧ sm_HD (S 25) (fun _ : Int => (S 1042 0)) 1 (S 1007 0) ∧ 0 ≤ (S 1043 0) ∧ (S 1043 0) < (S 1100018 0) ∧ (S 1100018 0) = (S 1032 0) ∧ (S 1032 0) ≤ 1 + (S 1020 0) ∧ 0 ≤ (S 1031 0) ∧ (S 1031 0) ≤ 100 ∧ 0 ≤ (S 1044 0) ∧ (S 1044 0) ≤ 30 ∧ 0 ≤ (S 1045 0) ∧ (S 1045 0) ≤ 30 ∧ 0 ≤ (S 1024 0) ∧ ((S 1021 0) = 0 → 0 ≤ (S 1023 0) ∧ (S 1023 0) ≤ 20 ∧ (S 1031 0) ≤ 3 * (S 1023 0) + 5 ∧ (S 1024 0) ≤ 2 * (S 1020 0) ∧ (S 1044 0) ≤ (S 1023 0) ∧ (S 1045 0) ≤ (S 1023 0))) → ((if 0 < (S 1021 0) then 12 else 30 * (20 - (S 1023 0)) + 25)) = d → sv_T sm_XS sm_cs sm_L sm_sh ((if 0 < (S 1021 0) then 12 else 30 * (20 - (S 1023 0)) + 25)).toNat (q_assigned p1 S) 47 0 (lv_args 0 [.ref 0, sv_I p1]) [] S
def q_conditional (p1 : Int) (S : sv_S) : Option Value → sv_S → Prop := fun v S' => ∃ r : Int, v = some (sv_I r) ∧ sv_R r ∧ sm_ok S' ∧ sv_mod [1020, 1021, 1022, 1023, 5, 1011, 3, 4, 1007, 1009, 11, 12, 13, 14, 1024, 15, 16, 1031, 1032, 17, 18, 19, 20, 21, 22, 23, 24, 25, 1042, 1043, 1044, 1045, 1100001, 1100002, 1100005, 1100003, 1100004, 1100018, 1100019, 1100016, 1100035, 1100036] S S' ∧ ((S 1020 0) ≤ (S' 1020 0) ∧ (S' 1020 0) < (S' 1012 0) ∧ 0 ≤ (S' 1021 0) ∧ (0 < (S 1021 0) → 0 < (S' 1021 0)) ∧ (S 1007 0) ≤ (S' 1007 0) ∧ (S' 1007 0) ≤ 90 ∧ sm_LN (S' 4) 400 (S' 1007 0) ∧ ((S 1009 0) = 1 → (S' 1009 0) = 1) ∧ ((S' 1021 0) = 0 → sm_WF (S' 11) (S' 12) (S' 13) (S' 1100001) (S' 1100002) (S' 1100005) (S' 1100003) (S' 1100004) (S' 1024 0) (S' 1007 0) (S' 1009 0) (sm_fn (S' 1032 0) (S' 21) (S' 1043 0)) ∧ sm_PX (S 11) (S 12) (S 13) (S 1100001) (S 1100002) (S 1100005) (S 1100003) (S 1100004) (S' 11) (S' 12) (S' 13) (S' 1100001) (S' 1100002) (S' 1100005) (S' 1100003) (S' 1100004) (S 1024 0) ∧ sm_FT (S' 11) (S' 12) (S' 13) (S' 1100019) (S' 17) (S' 18) (S' 21) (S' 19) (S' 20) (S' 22) (S' 1100016) (S' 1024 0) (S' 1007 0) (S' 1009 0) (S' 1032 0) (S' 1032 0) ∧ sm_WG (S' 1100001) (S' 1100019) (S' 1043 0) ∧ sm_F1 (S 1100019) (S' 1100019) (S 1024 0) ∧ sm_F1 (S 1100035) (S' 1100035) (S 1024 0) ∧ sm_F1 (S 17) (S' 17) (S 1032 0) ∧ sm_F1 (S 18) (S' 18) (S 1032 0) ∧ sm_F1 (S 21) (S' 21) (S 1032 0) ∧ sm_F1 (S 20) (S' 20) (S 1032 0) ∧ sm_F1 (S 22) (S' 22) (S 1032 0) ∧ sm_F1 (S 1100016) (S' 1100016) (S 1032 0) ∧ sm_F1 (S 19) (S' 19) (8 * (S 1032 0)) ∧ sm_FN (S' 1100016) (S 1032 0) (S' 1032 0) ∧ sm_RG (S' 11) (S' 12) (S' 13) (S' 1100035) (S' 1024 0)) ∧ (S' 1100036 0) = (S 1100036 0) ∧ sm_KL (S 15) (S 16) (S' 15) (S' 16) (S 1031 0) ∧ sm_HD (S' 23) (S' 24) (S' 1100018 0) (S' 1007 0) ∧ sm_HD (S' 25) (fun _ : Int => (S' 1042 0)) 1 (S' 1007 0) ∧ (S' 1031 0) = (S 1031 0) ∧ (S' 1043 0) = (S 1043 0) ∧ (S' 1044 0) = (S 1044 0) ∧ (S' 1045 0) = (S 1045 0) ∧ (S 1032 0) ≤ (S' 1032 0) ∧ (S' 1032 0) ≤ 1 + (S' 1020 0) ∧ (S' 1100018 0) = (S' 1032 0) ∧ (S 1024 0) ≤ (S' 1024 0) ∧ ((S' 1021 0) = 0 → (S' 1023 0) = (S 1023 0) ∧ (S' 1024 0) + 1 ≤ (S 1024 0) + 2 * ((S' 1020 0) - (S 1020 0))) ∧ (0 < (S' 1021 0) → (S' 1024 0) ≤ (S 1024 0) + 2 * ((S' 1020 0) - (S 1020 0)) + 2 * ((if 0 < (S 1021 0) then 11 else 30 * (20 - (S 1023 0)) + 24))) ∧ -1 ≤ r ∧ r < 12000 ∧ ((S' 1021 0) = 0 → (S 1020 0) < (S' 1020 0) ∧ 1 ≤ (S 6 (S 1020 0)) ∧ sm_ex (S' 1100001) (S' 1100002) (S' 1100005) (S' 1024 0) 1 r (17 * (20 - (S 1023 0)) + 17) (20 - (S 1023 0)) ∧ ((S' 11 r) = 2 ∨ (S' 11 r) = 7 → (S' 1100002 r) ≤ 17 * (20 - (S 1023 0)) + 2)) ∧ (0 < (S 1021 0) → (S' 1020 0) = (S 1020 0) ∧ (S' 1024 0) = (S 1024 0)))
def T_conditional (d : Int) : Prop := ∀ (p1 : Int) (S : sv_S), sm_ok S → (0 ≤ p1 ∧ p1 ≤ 1) → (0 ≤ (S 1020 0) ∧ (S 1020 0) < (S 1012 0) ∧ sm_TK (S 6) (S 8) (S 9) (S 10) (S 1012 0) ∧ 0 ≤ (S 1021 0) ∧ 0 ≤ (S 1004 0) ∧ (S 1004 0) ≤ 4000 ∧ 1 ≤ (S 1007 0) ∧ (S 1007 0) ≤ 90 ∧ sm_LN (S 4) 400 (S 1007 0) ∧ ((S 1021 0) = 0 → sm_WF (S 11) (S 12) (S 13) (S 1100001) (S 1100002) (S 1100005) (S 1100003) (S 1100004) (S 1024 0) (S 1007 0) (S 1009 0) (sm_fn (S 1032 0) (S 21) (S 1043 0)) ∧ sm_FT (S 11) (S 12) (S 13) (S 1100019) (S 17) (S 18) (S 21) (S 19) (S 20) (S 22) (S 1100016) (S 1024 0) (S 1007 0) (S 1009 0) (S 1032 0) (S 1032 0) ∧ sm_WG (S 1100001) (S 1100019) (S 1043 0) ∧ (S 1100016 (S 1043 0)) = 0 ∧ sm_RG (S 11) (S 12) (S 13) (S 1100035) (S 1024 0)) ∧ -1 ≤ (S 1100036 0) ∧ (S 1100036 0) < (S 1024 0) ∧ sm_HD (S 23) (S 24) (S 1100018 0) (S 1007 0) ∧ sm_HD (S 25) (fun _ : Int => (S 1042 0)) 1 (S 1007 0) ∧ 0 ≤ (S 1043 0) ∧ (S 1043 0) < (S 1100018 0) ∧ (S 1100018 0) = (S 1032 0) ∧ (S 1032 0) ≤ 1 + (S 1020 0) ∧ 0 ≤ (S 1031 0) ∧ (S 1031 0) ≤ 100 ∧ 0 ≤ (S 1044 0) ∧ (S 1044 0) ≤ 30 ∧ 0 ≤ (S 1045 0) ∧ (S 1045 0) ≤ 30 ∧ 0 ≤ (S 1024 0) ∧ ((S 1021 0) = 0 → 0 ≤ (S 1023 0) ∧ (S 1023 0) ≤ 20 ∧ (S 1031 0) ≤ 3 * (S 1023 0) + 5 ∧ (S 1024 0) ≤ 2 * (S 1020 0) ∧ (S 1044 0) ≤ (S 1023 0) ∧ (S 1045 0) ≤ (S 1023 0))) → ((if 0 < (S 1021 0) then 11 else 30 * (20 - (S 1023 0)) + 24)) = d → sv_T sm_XS sm_cs sm_L sm_sh ((if 0 < (S 1021 0) then 11 else 30 * (20 - (S 1023 0)) + 24)).toNat (q_conditional p1 S) 48 0 (lv_args 0 [.ref 0, sv_I p1]) [] S
def q_binary (p1 : Int) (p2 : Int) (S : sv_S) : Option Value → sv_S → Prop := fun v S' => ∃ r : Int, v = some (sv_I r) ∧ sv_R r ∧ sm_ok S' ∧ sv_mod [1020, 1021, 1022, 1023, 5, 1011, 3, 4, 1007, 1009, 11, 12, 13, 14, 1024, 15, 16, 1031, 1032, 17, 18, 19, 20, 21, 22, 23, 24, 25, 1042, 1043, 1044, 1045, 1100001, 1100002, 1100005, 1100003, 1100004, 1100018, 1100019, 1100016, 1100035, 1100036] S S' ∧ ((S 1020 0) ≤ (S' 1020 0) ∧ (S' 1020 0) < (S' 1012 0) ∧ 0 ≤ (S' 1021 0) ∧ (0 < (S 1021 0) → 0 < (S' 1021 0)) ∧ (S 1007 0) ≤ (S' 1007 0) ∧ (S' 1007 0) ≤ 90 ∧ sm_LN (S' 4) 400 (S' 1007 0) ∧ ((S 1009 0) = 1 → (S' 1009 0) = 1) ∧ ((S' 1021 0) = 0 → sm_WF (S' 11) (S' 12) (S' 13) (S' 1100001) (S' 1100002) (S' 1100005) (S' 1100003) (S' 1100004) (S' 1024 0) (S' 1007 0) (S' 1009 0) (sm_fn (S' 1032 0) (S' 21) (S' 1043 0)) ∧ sm_PX (S 11) (S 12) (S 13) (S 1100001) (S 1100002) (S 1100005) (S 1100003) (S 1100004) (S' 11) (S' 12) (S' 13) (S' 1100001) (S' 1100002) (S' 1100005) (S' 1100003) (S' 1100004) (S 1024 0) ∧ sm_FT (S' 11) (S' 12) (S' 13) (S' 1100019) (S' 17) (S' 18) (S' 21) (S' 19) (S' 20) (S' 22) (S' 1100016) (S' 1024 0) (S' 1007 0) (S' 1009 0) (S' 1032 0) (S' 1032 0) ∧ sm_WG (S' 1100001) (S' 1100019) (S' 1043 0) ∧ sm_F1 (S 1100019) (S' 1100019) (S 1024 0) ∧ sm_F1 (S 1100035) (S' 1100035) (S 1024 0) ∧ sm_F1 (S 17) (S' 17) (S 1032 0) ∧ sm_F1 (S 18) (S' 18) (S 1032 0) ∧ sm_F1 (S 21) (S' 21) (S 1032 0) ∧ sm_F1 (S 20) (S' 20) (S 1032 0) ∧ sm_F1 (S 22) (S' 22) (S 1032 0) ∧ sm_F1 (S 1100016) (S' 1100016) (S 1032 0) ∧ sm_F1 (S 19) (S' 19) (8 * (S 1032 0)) ∧ sm_FN (S' 1100016) (S 1032 0) (S' 1032 0) ∧ sm_RG (S' 11) (S' 12) (S' 13) (S' 1100035) (S' 1024 0)) ∧ (S' 1100036 0) = (S 1100036 0) ∧ sm_KL (S 15) (S 16) (S' 15) (S' 16) (S 1031 0) ∧ sm_HD (S' 23) (S' 24) (S' 1100018 0) (S' 1007 0) ∧ sm_HD (S' 25) (fun _ : Int => (S' 1042 0)) 1 (S' 1007 0) ∧ (S' 1031 0) = (S 1031 0) ∧ (S' 1043 0) = (S 1043 0) ∧ (S' 1044 0) = (S 1044 0) ∧ (S' 1045 0) = (S 1045 0) ∧ (S 1032 0) ≤ (S' 1032 0) ∧ (S' 1032 0) ≤ 1 + (S' 1020 0) ∧ (S' 1100018 0) = (S' 1032 0) ∧ (S 1024 0) ≤ (S' 1024 0) ∧ ((S' 1021 0) = 0 → (S' 1023 0) = (S 1023 0) ∧ (S' 1024 0) + 1 ≤ (S 1024 0) + 2 * ((S' 1020 0) - (S 1020 0))) ∧ (0 < (S' 1021 0) → (S' 1024 0) ≤ (S 1024 0) + 2 * ((S' 1020 0) - (S 1020 0)) + 2 * ((if 0 < (S 1021 0) then 10 else 30 * (20 - (S 1023 0)) + (23 - p1)))) ∧ -1 ≤ r ∧ r < 12000 ∧ ((S' 1021 0) = 0 → (S 1020 0) < (S' 1020 0) ∧ 1 ≤ (S 6 (S 1020 0)) ∧ sm_ex (S' 1100001) (S' 1100002) (S' 1100005) (S' 1024 0) 1 r (17 * (20 - (S 1023 0)) + (15 - p1)) (20 - (S 1023 0)) ∧ ((S' 11 r) = 2 ∨ (S' 11 r) = 7 → (S' 1100002 r) ≤ 17 * (20 - (S 1023 0)) + 2)) ∧ (0 < (S 1021 0) → (S' 1020 0) = (S 1020 0) ∧ (S' 1024 0) = (S 1024 0)))
def T_binary (d : Int) : Prop := ∀ (p1 : Int) (p2 : Int) (S : sv_S), sm_ok S → sv_R p1 → (0 ≤ p2 ∧ p2 ≤ 1) → (0 ≤ (S 1020 0) ∧ (S 1020 0) < (S 1012 0) ∧ sm_TK (S 6) (S 8) (S 9) (S 10) (S 1012 0) ∧ 0 ≤ (S 1021 0) ∧ 0 ≤ (S 1004 0) ∧ (S 1004 0) ≤ 4000 ∧ 1 ≤ (S 1007 0) ∧ (S 1007 0) ≤ 90 ∧ sm_LN (S 4) 400 (S 1007 0) ∧ ((S 1021 0) = 0 → sm_WF (S 11) (S 12) (S 13) (S 1100001) (S 1100002) (S 1100005) (S 1100003) (S 1100004) (S 1024 0) (S 1007 0) (S 1009 0) (sm_fn (S 1032 0) (S 21) (S 1043 0)) ∧ sm_FT (S 11) (S 12) (S 13) (S 1100019) (S 17) (S 18) (S 21) (S 19) (S 20) (S 22) (S 1100016) (S 1024 0) (S 1007 0) (S 1009 0) (S 1032 0) (S 1032 0) ∧ sm_WG (S 1100001) (S 1100019) (S 1043 0) ∧ (S 1100016 (S 1043 0)) = 0 ∧ sm_RG (S 11) (S 12) (S 13) (S 1100035) (S 1024 0)) ∧ -1 ≤ (S 1100036 0) ∧ (S 1100036 0) < (S 1024 0) ∧ sm_HD (S 23) (S 24) (S 1100018 0) (S 1007 0) ∧ sm_HD (S 25) (fun _ : Int => (S 1042 0)) 1 (S 1007 0) ∧ 0 ≤ (S 1043 0) ∧ (S 1043 0) < (S 1100018 0) ∧ (S 1100018 0) = (S 1032 0) ∧ (S 1032 0) ≤ 1 + (S 1020 0) ∧ 0 ≤ (S 1031 0) ∧ (S 1031 0) ≤ 100 ∧ 0 ≤ (S 1044 0) ∧ (S 1044 0) ≤ 30 ∧ 0 ≤ (S 1045 0) ∧ (S 1045 0) ≤ 30 ∧ 0 ≤ (S 1024 0) ∧ ((S 1021 0) = 0 → 0 ≤ (S 1023 0) ∧ (S 1023 0) ≤ 20 ∧ (S 1031 0) ≤ 3 * (S 1023 0) + 5 ∧ (S 1024 0) ≤ 2 * (S 1020 0) ∧ (S 1044 0) ≤ (S 1023 0) ∧ (S 1045 0) ≤ (S 1023 0)) ∧ 0 ≤ p1 ∧ p1 ≤ 10) → ((if 0 < (S 1021 0) then 10 else 30 * (20 - (S 1023 0)) + (23 - p1))) = d → sv_T sm_XS sm_cs sm_L sm_sh ((if 0 < (S 1021 0) then 10 else 30 * (20 - (S 1023 0)) + (23 - p1))).toNat (q_binary p1 p2 S) 51 0 (lv_args 0 [.ref 0, sv_I p1, sv_I p2]) [] S
def q_unit (S : sv_S) : Option Value → sv_S → Prop := fun v S' => ∃ r : Int, v = some (sv_I r) ∧ sv_R r ∧ sm_ok S' ∧ sv_mod [1020, 1021, 1022, 1023, 5, 1011, 3, 4, 1007, 1009, 11, 12, 13, 14, 1024, 15, 16, 1031, 1032, 17, 18, 19, 20, 21, 22, 23, 24, 25, 1042, 1043, 1044, 1045, 1100001, 1100002, 1100005, 1100003, 1100004, 1100018, 1100019, 1100016, 1100035, 1100036] S S' ∧ ((S 1020 0) ≤ (S' 1020 0) ∧ (S' 1020 0) < (S' 1012 0) ∧ 0 ≤ (S' 1021 0) ∧ (0 < (S 1021 0) → 0 < (S' 1021 0)) ∧ (S 1007 0) ≤ (S' 1007 0) ∧ (S' 1007 0) ≤ 90 ∧ sm_LN (S' 4) 400 (S' 1007 0) ∧ ((S 1009 0) = 1 → (S' 1009 0) = 1) ∧ ((S' 1021 0) = 0 → sm_WF (S' 11) (S' 12) (S' 13) (S' 1100001) (S' 1100002) (S' 1100005) (S' 1100003) (S' 1100004) (S' 1024 0) (S' 1007 0) (S' 1009 0) (sm_fn (S' 1032 0) (S' 21) (S' 1043 0)) ∧ sm_PX (S 11) (S 12) (S 13) (S 1100001) (S 1100002) (S 1100005) (S 1100003) (S 1100004) (S' 11) (S' 12) (S' 13) (S' 1100001) (S' 1100002) (S' 1100005) (S' 1100003) (S' 1100004) (S 1024 0) ∧ sm_FT (S' 11) (S' 12) (S' 13) (S' 1100019) (S' 17) (S' 18) (S' 21) (S' 19) (S' 20) (S' 22) (S' 1100016) (S' 1024 0) (S' 1007 0) (S' 1009 0) (S' 1032 0) (S' 1032 0) ∧ sm_WG (S' 1100001) (S' 1100019) (S' 1043 0) ∧ sm_F1 (S 1100019) (S' 1100019) (S 1024 0) ∧ sm_F1 (S 1100035) (S' 1100035) (S 1024 0) ∧ sm_F1 (S 17) (S' 17) (S 1032 0) ∧ sm_F1 (S 18) (S' 18) (S 1032 0) ∧ sm_F1 (S 21) (S' 21) (S 1032 0) ∧ sm_F1 (S 20) (S' 20) (S 1032 0) ∧ sm_F1 (S 22) (S' 22) (S 1032 0) ∧ sm_F1 (S 1100016) (S' 1100016) (S 1032 0) ∧ sm_F1 (S 19) (S' 19) (8 * (S 1032 0)) ∧ sm_FN (S' 1100016) (S 1032 0) (S' 1032 0) ∧ sm_RG (S' 11) (S' 12) (S' 13) (S' 1100035) (S' 1024 0)) ∧ (S' 1100036 0) = (S 1100036 0) ∧ sm_KL (S 15) (S 16) (S' 15) (S' 16) (S 1031 0) ∧ sm_HD (S' 23) (S' 24) (S' 1100018 0) (S' 1007 0) ∧ sm_HD (S' 25) (fun _ : Int => (S' 1042 0)) 1 (S' 1007 0) ∧ (S' 1031 0) = (S 1031 0) ∧ (S' 1043 0) = (S 1043 0) ∧ (S' 1044 0) = (S 1044 0) ∧ (S' 1045 0) = (S 1045 0) ∧ (S 1032 0) ≤ (S' 1032 0) ∧ (S' 1032 0) ≤ 1 + (S' 1020 0) ∧ (S' 1100018 0) = (S' 1032 0) ∧ (S 1024 0) ≤ (S' 1024 0) ∧ ((S' 1021 0) = 0 → (S' 1023 0) = (S 1023 0) ∧ (S' 1024 0) + 1 ≤ (S 1024 0) + 2 * ((S' 1020 0) - (S 1020 0))) ∧ (0 < (S' 1021 0) → (S' 1024 0) ≤ (S 1024 0) + 2 * ((S' 1020 0) - (S 1020 0)) + 2 * ((if 0 < (S 1021 0) then 9 else 30 * (20 - (S 1023 0)) + 12))) ∧ -1 ≤ r ∧ r < 12000 ∧ ((S' 1021 0) = 0 → (S 1020 0) < (S' 1020 0) ∧ 1 ≤ (S 6 (S 1020 0)) ∧ sm_ex (S' 1100001) (S' 1100002) (S' 1100005) (S' 1024 0) 1 r (17 * (20 - (S 1023 0)) + 5) (20 - (S 1023 0)) ∧ ((S' 11 r) = 2 ∨ (S' 11 r) = 7 → (S' 1100002 r) ≤ 17 * (20 - (S 1023 0)) + 2)) ∧ (0 < (S 1021 0) → (S' 1020 0) = (S 1020 0) ∧ (S' 1024 0) = (S 1024 0)))
def T_unit (d : Int) : Prop := ∀ (S : sv_S), sm_ok S → (0 ≤ (S 1020 0) ∧ (S 1020 0) < (S 1012 0) ∧ sm_TK (S 6) (S 8) (S 9) (S 10) (S 1012 0) ∧ 0 ≤ (S 1021 0) ∧ 0 ≤ (S 1004 0) ∧ (S 1004 0) ≤ 4000 ∧ 1 ≤ (S 1007 0) ∧ (S 1007 0) ≤ 90 ∧ sm_LN (S 4) 400 (S 1007 0) ∧ ((S 1021 0) = 0 → sm_WF (S 11) (S 12) (S 13) (S 1100001) (S 1100002) (S 1100005) (S 1100003) (S 1100004) (S 1024 0) (S 1007 0) (S 1009 0) (sm_fn (S 1032 0) (S 21) (S 1043 0)) ∧ sm_FT (S 11) (S 12) (S 13) (S 1100019) (S 17) (S 18) (S 21) (S 19) (S 20) (S 22) (S 1100016) (S 1024 0) (S 1007 0) (S 1009 0) (S 1032 0) (S 1032 0) ∧ sm_WG (S 1100001) (S 1100019) (S 1043 0) ∧ (S 1100016 (S 1043 0)) = 0 ∧ sm_RG (S 11) (S 12) (S 13) (S 1100035) (S 1024 0)) ∧ -1 ≤ (S 1100036 0) ∧ (S 1100036 0) < (S 1024 0) ∧ sm_HD (S 23) (S 24) (S 1100018 0) (S 1007 0) ∧ sm_HD (S 25) (fun _ : Int => (S 1042 0)) 1 (S 1007 0) ∧ 0 ≤ (S 1043 0) ∧ (S 1043 0) < (S 1100018 0) ∧ (S 1100018 0) = (S 1032 0) ∧ (S 1032 0) ≤ 1 + (S 1020 0) ∧ 0 ≤ (S 1031 0) ∧ (S 1031 0) ≤ 100 ∧ 0 ≤ (S 1044 0) ∧ (S 1044 0) ≤ 30 ∧ 0 ≤ (S 1045 0) ∧ (S 1045 0) ≤ 30 ∧ 0 ≤ (S 1024 0) ∧ ((S 1021 0) = 0 → 0 ≤ (S 1023 0) ∧ (S 1023 0) ≤ 20 ∧ (S 1031 0) ≤ 3 * (S 1023 0) + 5 ∧ (S 1024 0) ≤ 2 * (S 1020 0) ∧ (S 1044 0) ≤ (S 1023 0) ∧ (S 1045 0) ≤ (S 1023 0))) → ((if 0 < (S 1021 0) then 9 else 30 * (20 - (S 1023 0)) + 12)) = d → sv_T sm_XS sm_cs sm_L sm_sh ((if 0 < (S 1021 0) then 9 else 30 * (20 - (S 1023 0)) + 12)).toNat (q_unit S) 52 0 (lv_args 0 [.ref 0]) [] S
def q_postfix (S : sv_S) : Option Value → sv_S → Prop := fun v S' => ∃ r : Int, v = some (sv_I r) ∧ sv_R r ∧ sm_ok S' ∧ sv_mod [1020, 1021, 1022, 1023, 5, 1011, 3, 4, 1007, 1009, 11, 12, 13, 14, 1024, 15, 16, 1031, 1032, 17, 18, 19, 20, 21, 22, 23, 24, 25, 1042, 1043, 1044, 1045, 1100001, 1100002, 1100005, 1100003, 1100004, 1100018, 1100019, 1100016, 1100035, 1100036] S S' ∧ ((S 1020 0) ≤ (S' 1020 0) ∧ (S' 1020 0) < (S' 1012 0) ∧ 0 ≤ (S' 1021 0) ∧ (0 < (S 1021 0) → 0 < (S' 1021 0)) ∧ (S 1007 0) ≤ (S' 1007 0) ∧ (S' 1007 0) ≤ 90 ∧ sm_LN (S' 4) 400 (S' 1007 0) ∧ ((S 1009 0) = 1 → (S' 1009 0) = 1) ∧ ((S' 1021 0) = 0 → sm_WF (S' 11) (S' 12) (S' 13) (S' 1100001) (S' 1100002) (S' 1100005) (S' 1100003) (S' 1100004) (S' 1024 0) (S' 1007 0) (S' 1009 0) (sm_fn (S' 1032 0) (S' 21) (S' 1043 0)) ∧ sm_PX (S 11) (S 12) (S 13) (S 1100001) (S 1100002) (S 1100005) (S 1100003) (S 1100004) (S' 11) (S' 12) (S' 13) (S' 1100001) (S' 1100002) (S' 1100005) (S' 1100003) (S' 1100004) (S 1024 0) ∧ sm_FT (S' 11) (S' 12) (S' 13) (S' 1100019) (S' 17) (S' 18) (S' 21) (S' 19) (S' 20) (S' 22) (S' 1100016) (S' 1024 0) (S' 1007 0) (S' 1009 0) (S' 1032 0) (S' 1032 0) ∧ sm_WG (S' 1100001) (S' 1100019) (S' 1043 0) ∧ sm_F1 (S 1100019) (S' 1100019) (S 1024 0) ∧ sm_F1 (S 1100035) (S' 1100035) (S 1024 0) ∧ sm_F1 (S 17) (S' 17) (S 1032 0) ∧ sm_F1 (S 18) (S' 18) (S 1032 0) ∧ sm_F1 (S 21) (S' 21) (S 1032 0) ∧ sm_F1 (S 20) (S' 20) (S 1032 0) ∧ sm_F1 (S 22) (S' 22) (S 1032 0) ∧ sm_F1 (S 1100016) (S' 1100016) (S 1032 0) ∧ sm_F1 (S 19) (S' 19) (8 * (S 1032 0)) ∧ sm_FN (S' 1100016) (S 1032 0) (S' 1032 0) ∧ sm_RG (S' 11) (S' 12) (S' 13) (S' 1100035) (S' 1024 0)) ∧ (S' 1100036 0) = (S 1100036 0) ∧ sm_KL (S 15) (S 16) (S' 15) (S' 16) (S 1031 0) ∧ sm_HD (S' 23) (S' 24) (S' 1100018 0) (S' 1007 0) ∧ sm_HD (S' 25) (fun _ : Int => (S' 1042 0)) 1 (S' 1007 0) ∧ (S' 1031 0) = (S 1031 0) ∧ (S' 1043 0) = (S 1043 0) ∧ (S' 1044 0) = (S 1044 0) ∧ (S' 1045 0) = (S 1045 0) ∧ (S 1032 0) ≤ (S' 1032 0) ∧ (S' 1032 0) ≤ 1 + (S' 1020 0) ∧ (S' 1100018 0) = (S' 1032 0) ∧ (S 1024 0) ≤ (S' 1024 0) ∧ ((S' 1021 0) = 0 → (S' 1023 0) = (S 1023 0) ∧ (S' 1024 0) + 1 ≤ (S 1024 0) + 2 * ((S' 1020 0) - (S 1020 0))) ∧ (0 < (S' 1021 0) → (S' 1024 0) ≤ (S 1024 0) + 2 * ((S' 1020 0) - (S 1020 0)) + 2 * (30 * (20 - (S 1023 0)) + 11)) ∧ -1 ≤ r ∧ r < 12000 ∧ ((S' 1021 0) = 0 → (S 1020 0) < (S' 1020 0) ∧ 1 ≤ (S 6 (S 1020 0)) ∧ sm_ex (S' 1100001) (S' 1100002) (S' 1100005) (S' 1024 0) 1 r (17 * (20 - (S 1023 0)) + 5) (20 - (S 1023 0)) ∧ ((S' 11 r) = 2 ∨ (S' 11 r) = 7 → (S' 1100002 r) ≤ 17 * (20 - (S 1023 0)) + 2)))
def T_postfix (d : Int) : Prop := ∀ (S : sv_S), sm_ok S → (0 ≤ (S 1020 0) ∧ (S 1020 0) < (S 1012 0) ∧ sm_TK (S 6) (S 8) (S 9) (S 10) (S 1012 0) ∧ 0 ≤ (S 1021 0) ∧ 0 ≤ (S 1004 0) ∧ (S 1004 0) ≤ 4000 ∧ 1 ≤ (S 1007 0) ∧ (S 1007 0) ≤ 90 ∧ sm_LN (S 4) 400 (S 1007 0) ∧ ((S 1021 0) = 0 → sm_WF (S 11) (S 12) (S 13) (S 1100001) (S 1100002) (S 1100005) (S 1100003) (S 1100004) (S 1024 0) (S 1007 0) (S 1009 0) (sm_fn (S 1032 0) (S 21) (S 1043 0)) ∧ sm_FT (S 11) (S 12) (S 13) (S 1100019) (S 17) (S 18) (S 21) (S 19) (S 20) (S 22) (S 1100016) (S 1024 0) (S 1007 0) (S 1009 0) (S 1032 0) (S 1032 0) ∧ sm_WG (S 1100001) (S 1100019) (S 1043 0) ∧ (S 1100016 (S 1043 0)) = 0 ∧ sm_RG (S 11) (S 12) (S 13) (S 1100035) (S 1024 0)) ∧ -1 ≤ (S 1100036 0) ∧ (S 1100036 0) < (S 1024 0) ∧ sm_HD (S 23) (S 24) (S 1100018 0) (S 1007 0) ∧ sm_HD (S 25) (fun _ : Int => (S 1042 0)) 1 (S 1007 0) ∧ 0 ≤ (S 1043 0) ∧ (S 1043 0) < (S 1100018 0) ∧ (S 1100018 0) = (S 1032 0) ∧ (S 1032 0) ≤ 1 + (S 1020 0) ∧ 0 ≤ (S 1031 0) ∧ (S 1031 0) ≤ 100 ∧ 0 ≤ (S 1044 0) ∧ (S 1044 0) ≤ 30 ∧ 0 ≤ (S 1045 0) ∧ (S 1045 0) ≤ 30 ∧ 0 ≤ (S 1024 0) ∧ ((S 1021 0) = 0 → 0 ≤ (S 1023 0) ∧ (S 1023 0) ≤ 20 ∧ (S 1031 0) ≤ 3 * (S 1023 0) + 5 ∧ (S 1024 0) ≤ 2 * (S 1020 0) ∧ (S 1044 0) ≤ (S 1023 0) ∧ (S 1045 0) ≤ (S 1023 0)) ∧ (S 1021 0) = 0) → (30 * (20 - (S 1023 0)) + 11) = d → sv_T sm_XS sm_cs sm_L sm_sh (30 * (20 - (S 1023 0)) + 11).toNat (q_postfix S) 53 0 (lv_args 0 [.ref 0]) [] S
def q_left (S : sv_S) : Option Value → sv_S → Prop := fun v S' => ∃ r : Int, v = some (sv_I r) ∧ sv_R r ∧ sm_ok S' ∧ sv_mod [1020, 1021, 1022, 1023, 5, 1011, 3, 4, 1007, 1009, 11, 12, 13, 14, 1024, 15, 16, 1031, 1032, 17, 18, 19, 20, 21, 22, 23, 24, 25, 1042, 1043, 1044, 1045, 1100001, 1100002, 1100005, 1100003, 1100004, 1100018, 1100019, 1100016, 1100035, 1100036] S S' ∧ ((S 1020 0) ≤ (S' 1020 0) ∧ (S' 1020 0) < (S' 1012 0) ∧ 0 ≤ (S' 1021 0) ∧ (0 < (S 1021 0) → 0 < (S' 1021 0)) ∧ (S 1007 0) ≤ (S' 1007 0) ∧ (S' 1007 0) ≤ 90 ∧ sm_LN (S' 4) 400 (S' 1007 0) ∧ ((S 1009 0) = 1 → (S' 1009 0) = 1) ∧ ((S' 1021 0) = 0 → sm_WF (S' 11) (S' 12) (S' 13) (S' 1100001) (S' 1100002) (S' 1100005) (S' 1100003) (S' 1100004) (S' 1024 0) (S' 1007 0) (S' 1009 0) (sm_fn (S' 1032 0) (S' 21) (S' 1043 0)) ∧ sm_PX (S 11) (S 12) (S 13) (S 1100001) (S 1100002) (S 1100005) (S 1100003) (S 1100004) (S' 11) (S' 12) (S' 13) (S' 1100001) (S' 1100002) (S' 1100005) (S' 1100003) (S' 1100004) (S 1024 0) ∧ sm_FT (S' 11) (S' 12) (S' 13) (S' 1100019) (S' 17) (S' 18) (S' 21) (S' 19) (S' 20) (S' 22) (S' 1100016) (S' 1024 0) (S' 1007 0) (S' 1009 0) (S' 1032 0) (S' 1032 0) ∧ sm_WG (S' 1100001) (S' 1100019) (S' 1043 0) ∧ sm_F1 (S 1100019) (S' 1100019) (S 1024 0) ∧ sm_F1 (S 1100035) (S' 1100035) (S 1024 0) ∧ sm_F1 (S 17) (S' 17) (S 1032 0) ∧ sm_F1 (S 18) (S' 18) (S 1032 0) ∧ sm_F1 (S 21) (S' 21) (S 1032 0) ∧ sm_F1 (S 20) (S' 20) (S 1032 0) ∧ sm_F1 (S 22) (S' 22) (S 1032 0) ∧ sm_F1 (S 1100016) (S' 1100016) (S 1032 0) ∧ sm_F1 (S 19) (S' 19) (8 * (S 1032 0)) ∧ sm_FN (S' 1100016) (S 1032 0) (S' 1032 0) ∧ sm_RG (S' 11) (S' 12) (S' 13) (S' 1100035) (S' 1024 0)) ∧ (S' 1100036 0) = (S 1100036 0) ∧ sm_KL (S 15) (S 16) (S' 15) (S' 16) (S 1031 0) ∧ sm_HD (S' 23) (S' 24) (S' 1100018 0) (S' 1007 0) ∧ sm_HD (S' 25) (fun _ : Int => (S' 1042 0)) 1 (S' 1007 0) ∧ (S' 1031 0) = (S 1031 0) ∧ (S' 1043 0) = (S 1043 0) ∧ (S' 1044 0) = (S 1044 0) ∧ (S' 1045 0) = (S 1045 0) ∧ (S 1032 0) ≤ (S' 1032 0) ∧ (S' 1032 0) ≤ 1 + (S' 1020 0) ∧ (S' 1100018 0) = (S' 1032 0) ∧ (S 1024 0) ≤ (S' 1024 0) ∧ ((S' 1021 0) = 0 → (S' 1023 0) = (S 1023 0) ∧ (S' 1024 0) + 1 ≤ (S 1024 0) + 2 * ((S' 1020 0) - (S 1020 0))) ∧ (0 < (S' 1021 0) → (S' 1024 0) ≤ (S 1024 0) + 2 * ((S' 1020 0) - (S 1020 0)) + 2 * (30 * (20 - (S 1023 0)) + 10)) ∧ -1 ≤ r ∧ r < 12000 ∧ ((S' 1021 0) = 0 → (S 1020 0) < (S' 1020 0) ∧ 1 ≤ (S 6 (S 1020 0)) ∧ sm_ex (S' 1100001) (S' 1100002) (S' 1100005) (S' 1024 0) 1 r (17 * (20 - (S 1023 0)) + 2) (20 - (S 1023 0)) ∧ ((S' 11 r) = 2 ∨ (S' 11 r) = 7 → (S' 1100002 r) ≤ 17 * (20 - (S 1023 0)) + 2)))
def T_left (d : Int) : Prop := ∀ (S : sv_S), sm_ok S → (0 ≤ (S 1020 0) ∧ (S 1020 0) < (S 1012 0) ∧ sm_TK (S 6) (S 8) (S 9) (S 10) (S 1012 0) ∧ 0 ≤ (S 1021 0) ∧ 0 ≤ (S 1004 0) ∧ (S 1004 0) ≤ 4000 ∧ 1 ≤ (S 1007 0) ∧ (S 1007 0) ≤ 90 ∧ sm_LN (S 4) 400 (S 1007 0) ∧ ((S 1021 0) = 0 → sm_WF (S 11) (S 12) (S 13) (S 1100001) (S 1100002) (S 1100005) (S 1100003) (S 1100004) (S 1024 0) (S 1007 0) (S 1009 0) (sm_fn (S 1032 0) (S 21) (S 1043 0)) ∧ sm_FT (S 11) (S 12) (S 13) (S 1100019) (S 17) (S 18) (S 21) (S 19) (S 20) (S 22) (S 1100016) (S 1024 0) (S 1007 0) (S 1009 0) (S 1032 0) (S 1032 0) ∧ sm_WG (S 1100001) (S 1100019) (S 1043 0) ∧ (S 1100016 (S 1043 0)) = 0 ∧ sm_RG (S 11) (S 12) (S 13) (S 1100035) (S 1024 0)) ∧ -1 ≤ (S 1100036 0) ∧ (S 1100036 0) < (S 1024 0) ∧ sm_HD (S 23) (S 24) (S 1100018 0) (S 1007 0) ∧ sm_HD (S 25) (fun _ : Int => (S 1042 0)) 1 (S 1007 0) ∧ 0 ≤ (S 1043 0) ∧ (S 1043 0) < (S 1100018 0) ∧ (S 1100018 0) = (S 1032 0) ∧ (S 1032 0) ≤ 1 + (S 1020 0) ∧ 0 ≤ (S 1031 0) ∧ (S 1031 0) ≤ 100 ∧ 0 ≤ (S 1044 0) ∧ (S 1044 0) ≤ 30 ∧ 0 ≤ (S 1045 0) ∧ (S 1045 0) ≤ 30 ∧ 0 ≤ (S 1024 0) ∧ ((S 1021 0) = 0 → 0 ≤ (S 1023 0) ∧ (S 1023 0) ≤ 20 ∧ (S 1031 0) ≤ 3 * (S 1023 0) + 5 ∧ (S 1024 0) ≤ 2 * (S 1020 0) ∧ (S 1044 0) ≤ (S 1023 0) ∧ (S 1045 0) ≤ (S 1023 0)) ∧ (S 1021 0) = 0) → (30 * (20 - (S 1023 0)) + 10) = d → sv_T sm_XS sm_cs sm_L sm_sh (30 * (20 - (S 1023 0)) + 10).toNat (q_left S) 54 0 (lv_args 0 [.ref 0]) [] S
def q_fresh (S : sv_S) : Option Value → sv_S → Prop := fun v S' => ∃ r : Int, v = some (sv_I r) ∧ sv_R r ∧ sm_ok S' ∧ sv_mod [1020, 1021, 1022, 1023, 5, 1011, 3, 4, 1007, 1009, 11, 12, 13, 14, 1024, 15, 16, 1031, 1032, 17, 18, 19, 20, 21, 22, 23, 24, 25, 1042, 1043, 1044, 1045, 1100001, 1100002, 1100005, 1100003, 1100004, 1100018, 1100019, 1100016, 1100035, 1100036] S S' ∧ ((S 1020 0) ≤ (S' 1020 0) ∧ (S' 1020 0) < (S' 1012 0) ∧ 0 ≤ (S' 1021 0) ∧ (0 < (S 1021 0) → 0 < (S' 1021 0)) ∧ (S 1007 0) ≤ (S' 1007 0) ∧ (S' 1007 0) ≤ 90 ∧ sm_LN (S' 4) 400 (S' 1007 0) ∧ ((S 1009 0) = 1 → (S' 1009 0) = 1) ∧ ((S' 1021 0) = 0 → sm_WF (S' 11) (S' 12) (S' 13) (S' 1100001) (S' 1100002) (S' 1100005) (S' 1100003) (S' 1100004) (S' 1024 0) (S' 1007 0) (S' 1009 0) (sm_fn (S' 1032 0) (S' 21) (S' 1043 0)) ∧ sm_PX (S 11) (S 12) (S 13) (S 1100001) (S 1100002) (S 1100005) (S 1100003) (S 1100004) (S' 11) (S' 12) (S' 13) (S' 1100001) (S' 1100002) (S' 1100005) (S' 1100003) (S' 1100004) (S 1024 0) ∧ sm_FT (S' 11) (S' 12) (S' 13) (S' 1100019) (S' 17) (S' 18) (S' 21) (S' 19) (S' 20) (S' 22) (S' 1100016) (S' 1024 0) (S' 1007 0) (S' 1009 0) (S' 1032 0) (S' 1032 0) ∧ sm_WG (S' 1100001) (S' 1100019) (S' 1043 0) ∧ sm_F1 (S 1100019) (S' 1100019) (S 1024 0) ∧ sm_F1 (S 1100035) (S' 1100035) (S 1024 0) ∧ sm_F1 (S 17) (S' 17) (S 1032 0) ∧ sm_F1 (S 18) (S' 18) (S 1032 0) ∧ sm_F1 (S 21) (S' 21) (S 1032 0) ∧ sm_F1 (S 20) (S' 20) (S 1032 0) ∧ sm_F1 (S 22) (S' 22) (S 1032 0) ∧ sm_F1 (S 1100016) (S' 1100016) (S 1032 0) ∧ sm_F1 (S 19) (S' 19) (8 * (S 1032 0)) ∧ sm_FN (S' 1100016) (S 1032 0) (S' 1032 0) ∧ sm_RG (S' 11) (S' 12) (S' 13) (S' 1100035) (S' 1024 0)) ∧ (S' 1100036 0) = (S 1100036 0) ∧ sm_KL (S 15) (S 16) (S' 15) (S' 16) (S 1031 0) ∧ sm_HD (S' 23) (S' 24) (S' 1100018 0) (S' 1007 0) ∧ sm_HD (S' 25) (fun _ : Int => (S' 1042 0)) 1 (S' 1007 0) ∧ (S' 1031 0) = (S 1031 0) ∧ (S' 1043 0) = (S 1043 0) ∧ (S' 1044 0) = (S 1044 0) ∧ (S' 1045 0) = (S 1045 0) ∧ (S 1032 0) ≤ (S' 1032 0) ∧ (S' 1032 0) ≤ 1 + (S' 1020 0) ∧ (S' 1100018 0) = (S' 1032 0) ∧ (S 1024 0) ≤ (S' 1024 0) ∧ ((S' 1021 0) = 0 → (S' 1023 0) = (S 1023 0) ∧ (S' 1024 0) + 1 ≤ (S 1024 0) + 2 * ((S' 1020 0) - (S 1020 0))) ∧ (0 < (S' 1021 0) → (S' 1024 0) ≤ (S 1024 0) + 2 * ((S' 1020 0) - (S 1020 0)) + 2 * (30 * (20 - (S 1023 0)) + 9)) ∧ -1 ≤ r ∧ r < 12000 ∧ ((S' 1021 0) = 0 → (S 1020 0) < (S' 1020 0) ∧ 1 ≤ (S 6 (S 1020 0)) ∧ sm_ex (S' 1100001) (S' 1100002) (S' 1100005) (S' 1024 0) 1 r (17 * (20 - (S 1023 0)) + 2) (20 - (S 1023 0)) ∧ ((S' 11 r) = 2 ∨ (S' 11 r) = 7 → (S' 1100002 r) ≤ 17 * (20 - (S 1023 0)) + 2)))
def T_fresh (d : Int) : Prop := ∀ (S : sv_S), sm_ok S → (0 ≤ (S 1020 0) ∧ (S 1020 0) < (S 1012 0) ∧ sm_TK (S 6) (S 8) (S 9) (S 10) (S 1012 0) ∧ 0 ≤ (S 1021 0) ∧ 0 ≤ (S 1004 0) ∧ (S 1004 0) ≤ 4000 ∧ 1 ≤ (S 1007 0) ∧ (S 1007 0) ≤ 90 ∧ sm_LN (S 4) 400 (S 1007 0) ∧ ((S 1021 0) = 0 → sm_WF (S 11) (S 12) (S 13) (S 1100001) (S 1100002) (S 1100005) (S 1100003) (S 1100004) (S 1024 0) (S 1007 0) (S 1009 0) (sm_fn (S 1032 0) (S 21) (S 1043 0)) ∧ sm_FT (S 11) (S 12) (S 13) (S 1100019) (S 17) (S 18) (S 21) (S 19) (S 20) (S 22) (S 1100016) (S 1024 0) (S 1007 0) (S 1009 0) (S 1032 0) (S 1032 0) ∧ sm_WG (S 1100001) (S 1100019) (S 1043 0) ∧ (S 1100016 (S 1043 0)) = 0 ∧ sm_RG (S 11) (S 12) (S 13) (S 1100035) (S 1024 0)) ∧ -1 ≤ (S 1100036 0) ∧ (S 1100036 0) < (S 1024 0) ∧ sm_HD (S 23) (S 24) (S 1100018 0) (S 1007 0) ∧ sm_HD (S 25) (fun _ : Int => (S 1042 0)) 1 (S 1007 0) ∧ 0 ≤ (S 1043 0) ∧ (S 1043 0) < (S 1100018 0) ∧ (S 1100018 0) = (S 1032 0) ∧ (S 1032 0) ≤ 1 + (S 1020 0) ∧ 0 ≤ (S 1031 0) ∧ (S 1031 0) ≤ 100 ∧ 0 ≤ (S 1044 0) ∧ (S 1044 0) ≤ 30 ∧ 0 ≤ (S 1045 0) ∧ (S 1045 0) ≤ 30 ∧ 0 ≤ (S 1024 0) ∧ ((S 1021 0) = 0 → 0 ≤ (S 1023 0) ∧ (S 1023 0) ≤ 20 ∧ (S 1031 0) ≤ 3 * (S 1023 0) + 5 ∧ (S 1024 0) ≤ 2 * (S 1020 0) ∧ (S 1044 0) ≤ (S 1023 0) ∧ (S 1045 0) ≤ (S 1023 0)) ∧ (S 1021 0) = 0 ∧ (S 6 (S 1020 0)) = 2) → (30 * (20 - (S 1023 0)) + 9) = d → sv_T sm_XS sm_cs sm_L sm_sh (30 * (20 - (S 1023 0)) + 9).toNat (q_fresh S) 55 0 (lv_args 0 [.ref 0]) [] S
def q_member (p1 : Int) (S : sv_S) : Option Value → sv_S → Prop := fun v S' => ∃ r : Int, v = some (sv_I r) ∧ sv_R r ∧ sm_ok S' ∧ sv_mod [1020, 1021, 1022, 1023, 5, 1011, 3, 4, 1007, 1009, 11, 12, 13, 14, 1024, 15, 16, 1031, 1032, 17, 18, 19, 20, 21, 22, 23, 24, 25, 1042, 1043, 1044, 1045, 1100001, 1100002, 1100005, 1100003, 1100004, 1100018, 1100019, 1100016, 1100035, 1100036] S S' ∧ ((S 1020 0) ≤ (S' 1020 0) ∧ (S' 1020 0) < (S' 1012 0) ∧ 0 ≤ (S' 1021 0) ∧ (0 < (S 1021 0) → 0 < (S' 1021 0)) ∧ (S 1007 0) ≤ (S' 1007 0) ∧ (S' 1007 0) ≤ 90 ∧ sm_LN (S' 4) 400 (S' 1007 0) ∧ ((S 1009 0) = 1 → (S' 1009 0) = 1) ∧ ((S' 1021 0) = 0 → sm_WF (S' 11) (S' 12) (S' 13) (S' 1100001) (S' 1100002) (S' 1100005) (S' 1100003) (S' 1100004) (S' 1024 0) (S' 1007 0) (S' 1009 0) (sm_fn (S' 1032 0) (S' 21) (S' 1043 0)) ∧ sm_PX (S 11) (S 12) (S 13) (S 1100001) (S 1100002) (S 1100005) (S 1100003) (S 1100004) (S' 11) (S' 12) (S' 13) (S' 1100001) (S' 1100002) (S' 1100005) (S' 1100003) (S' 1100004) (S 1024 0) ∧ sm_FT (S' 11) (S' 12) (S' 13) (S' 1100019) (S' 17) (S' 18) (S' 21) (S' 19) (S' 20) (S' 22) (S' 1100016) (S' 1024 0) (S' 1007 0) (S' 1009 0) (S' 1032 0) (S' 1032 0) ∧ sm_WG (S' 1100001) (S' 1100019) (S' 1043 0) ∧ sm_F1 (S 1100019) (S' 1100019) (S 1024 0) ∧ sm_F1 (S 1100035) (S' 1100035) (S 1024 0) ∧ sm_F1 (S 17) (S' 17) (S 1032 0) ∧ sm_F1 (S 18) (S' 18) (S 1032 0) ∧ sm_F1 (S 21) (S' 21) (S 1032 0) ∧ sm_F1 (S 20) (S' 20) (S 1032 0) ∧ sm_F1 (S 22) (S' 22) (S 1032 0) ∧ sm_F1 (S 1100016) (S' 1100016) (S 1032 0) ∧ sm_F1 (S 19) (S' 19) (8 * (S 1032 0)) ∧ sm_FN (S' 1100016) (S 1032 0) (S' 1032 0) ∧ sm_RG (S' 11) (S' 12) (S' 13) (S' 1100035) (S' 1024 0)) ∧ (S' 1100036 0) = (S 1100036 0) ∧ sm_KL (S 15) (S 16) (S' 15) (S' 16) (S 1031 0) ∧ sm_HD (S' 23) (S' 24) (S' 1100018 0) (S' 1007 0) ∧ sm_HD (S' 25) (fun _ : Int => (S' 1042 0)) 1 (S' 1007 0) ∧ (S' 1031 0) = (S 1031 0) ∧ (S' 1043 0) = (S 1043 0) ∧ (S' 1044 0) = (S 1044 0) ∧ (S' 1045 0) = (S 1045 0) ∧ (S 1032 0) ≤ (S' 1032 0) ∧ (S' 1032 0) ≤ 1 + (S' 1020 0) ∧ (S' 1100018 0) = (S' 1032 0) ∧ (S 1024 0) ≤ (S' 1024 0) ∧ ((S' 1021 0) = 0 → (S' 1023 0) = (S 1023 0) ∧ (S' 1024 0) + 0 ≤ (S 1024 0) + 2 * ((S' 1020 0) - (S 1020 0))) ∧ (0 < (S' 1021 0) → (S' 1024 0) ≤ (S 1024 0) + 2 * ((S' 1020 0) - (S 1020 0)) + 2 * (30 * (20 - (S 1023 0)) + 9)) ∧ -1 ≤ r ∧ r < 12000 ∧ ((S' 1021 0) = 0 → (S 1020 0) < (S' 1020 0) ∧ 1 ≤ (S 6 (S 1020 0)) ∧ sm_ex (S' 1100001) (S' 1100002) (S' 1100005) (S' 1024 0) 1 r (17 * (20 - (S 1023 0)) + 2) (20 - (S 1023 0))))
def T_member (d : Int) : Prop := ∀ (p1 : Int) (S : sv_S), sm_ok S → sv_R p1 → (0 ≤ (S 1020 0) ∧ (S 1020 0) < (S 1012 0) ∧ sm_TK (S 6) (S 8) (S 9) (S 10) (S 1012 0) ∧ 0 ≤ (S 1021 0) ∧ 0 ≤ (S 1004 0) ∧ (S 1004 0) ≤ 4000 ∧ 1 ≤ (S 1007 0) ∧ (S 1007 0) ≤ 90 ∧ sm_LN (S 4) 400 (S 1007 0) ∧ ((S 1021 0) = 0 → sm_WF (S 11) (S 12) (S 13) (S 1100001) (S 1100002) (S 1100005) (S 1100003) (S 1100004) (S 1024 0) (S 1007 0) (S 1009 0) (sm_fn (S 1032 0) (S 21) (S 1043 0)) ∧ sm_FT (S 11) (S 12) (S 13) (S 1100019) (S 17) (S 18) (S 21) (S 19) (S 20) (S 22) (S 1100016) (S 1024 0) (S 1007 0) (S 1009 0) (S 1032 0) (S 1032 0) ∧ sm_WG (S 1100001) (S 1100019) (S 1043 0) ∧ (S 1100016 (S 1043 0)) = 0 ∧ sm_RG (S 11) (S 12) (S 13) (S 1100035) (S 1024 0)) ∧ -1 ≤ (S 1100036 0) ∧ (S 1100036 0) < (S 1024 0) ∧ sm_HD (S 23) (S 24) (S 1100018 0) (S 1007 0) ∧ sm_HD (S 25) (fun _ : Int => (S 1042 0)) 1 (S 1007 0) ∧ 0 ≤ (S 1043 0) ∧ (S 1043 0) < (S 1100018 0) ∧ (S 1100018 0) = (S 1032 0) ∧ (S 1032 0) ≤ 1 + (S 1020 0) ∧ 0 ≤ (S 1031 0) ∧ (S 1031 0) ≤ 100 ∧ 0 ≤ (S 1044 0) ∧ (S 1044 0) ≤ 30 ∧ 0 ≤ (S 1045 0) ∧ (S 1045 0) ≤ 30 ∧ 0 ≤ (S 1024 0) ∧ ((S 1021 0) = 0 → 0 ≤ (S 1023 0) ∧ (S 1023 0) ≤ 20 ∧ (S 1031 0) ≤ 3 * (S 1023 0) + 5 ∧ (S 1024 0) ≤ 2 * (S 1020 0) ∧ (S 1044 0) ≤ (S 1023 0) ∧ (S 1045 0) ≤ (S 1023 0)) ∧ (S 1021 0) = 0 ∧ ((S 6 (S 1020 0)) = 5) ∧ sm_ex (S 1100001) (S 1100002) (S 1100005) (S 1024 0) 1 p1 (17 * (20 - (S 1023 0)) + 2) (20 - (S 1023 0))) → (30 * (20 - (S 1023 0)) + 9) = d → sv_T sm_XS sm_cs sm_L sm_sh (30 * (20 - (S 1023 0)) + 9).toNat (q_member p1 S) 56 0 (lv_args 0 [.ref 0, sv_I p1]) [] S
def q_arguments (S : sv_S) : Option Value → sv_S → Prop := fun v S' => ∃ r : Int, v = some (sv_I r) ∧ sv_R r ∧ sm_ok S' ∧ sv_mod [1020, 1021, 1022, 1023, 5, 1011, 3, 4, 1007, 1009, 11, 12, 13, 14, 1024, 15, 16, 1031, 1032, 17, 18, 19, 20, 21, 22, 23, 24, 25, 1042, 1043, 1044, 1045, 1100001, 1100002, 1100005, 1100003, 1100004, 1100018, 1100019, 1100016, 1100035, 1100036] S S' ∧ ((S 1020 0) ≤ (S' 1020 0) ∧ (S' 1020 0) < (S' 1012 0) ∧ 0 ≤ (S' 1021 0) ∧ (0 < (S 1021 0) → 0 < (S' 1021 0)) ∧ (S 1007 0) ≤ (S' 1007 0) ∧ (S' 1007 0) ≤ 90 ∧ sm_LN (S' 4) 400 (S' 1007 0) ∧ ((S 1009 0) = 1 → (S' 1009 0) = 1) ∧ ((S' 1021 0) = 0 → sm_WF (S' 11) (S' 12) (S' 13) (S' 1100001) (S' 1100002) (S' 1100005) (S' 1100003) (S' 1100004) (S' 1024 0) (S' 1007 0) (S' 1009 0) (sm_fn (S' 1032 0) (S' 21) (S' 1043 0)) ∧ sm_PX (S 11) (S 12) (S 13) (S 1100001) (S 1100002) (S 1100005) (S 1100003) (S 1100004) (S' 11) (S' 12) (S' 13) (S' 1100001) (S' 1100002) (S' 1100005) (S' 1100003) (S' 1100004) (S 1024 0) ∧ sm_FT (S' 11) (S' 12) (S' 13) (S' 1100019) (S' 17) (S' 18) (S' 21) (S' 19) (S' 20) (S' 22) (S' 1100016) (S' 1024 0) (S' 1007 0) (S' 1009 0) (S' 1032 0) (S' 1032 0) ∧ sm_WG (S' 1100001) (S' 1100019) (S' 1043 0) ∧ sm_F1 (S 1100019) (S' 1100019) (S 1024 0) ∧ sm_F1 (S 1100035) (S' 1100035) (S 1024 0) ∧ sm_F1 (S 17) (S' 17) (S 1032 0) ∧ sm_F1 (S 18) (S' 18) (S 1032 0) ∧ sm_F1 (S 21) (S' 21) (S 1032 0) ∧ sm_F1 (S 20) (S' 20) (S 1032 0) ∧ sm_F1 (S 22) (S' 22) (S 1032 0) ∧ sm_F1 (S 1100016) (S' 1100016) (S 1032 0) ∧ sm_F1 (S 19) (S' 19) (8 * (S 1032 0)) ∧ sm_FN (S' 1100016) (S 1032 0) (S' 1032 0) ∧ sm_RG (S' 11) (S' 12) (S' 13) (S' 1100035) (S' 1024 0)) ∧ (S' 1100036 0) = (S 1100036 0) ∧ sm_KL (S 15) (S 16) (S' 15) (S' 16) (S 1031 0) ∧ sm_HD (S' 23) (S' 24) (S' 1100018 0) (S' 1007 0) ∧ sm_HD (S' 25) (fun _ : Int => (S' 1042 0)) 1 (S' 1007 0) ∧ (S' 1031 0) = (S 1031 0) ∧ (S' 1043 0) = (S 1043 0) ∧ (S' 1044 0) = (S 1044 0) ∧ (S' 1045 0) = (S 1045 0) ∧ (S 1032 0) ≤ (S' 1032 0) ∧ (S' 1032 0) ≤ 1 + (S' 1020 0) ∧ (S' 1100018 0) = (S' 1032 0) ∧ (S 1024 0) ≤ (S' 1024 0) ∧ ((S' 1021 0) = 0 → (S' 1023 0) = (S 1023 0) ∧ (S' 1024 0) + 2 ≤ (S 1024 0) + 2 * ((S' 1020 0) - (S 1020 0))) ∧ (0 < (S' 1021 0) → (S' 1024 0) ≤ (S 1024 0) + 2 * ((S' 1020 0) - (S 1020 0)) + 2 * (30 * (20 - (S 1023 0)) + 9)) ∧ -1 ≤ r ∧ r < 12000 ∧ ((S' 1021 0) = 0 → sm_li (S' 1100001) (S' 1100002) (S' 1100005) (S' 1024 0) 3 r 8 (19 - (S 1023 0)) ∧ (S 1020 0) < (S' 1020 0)))
def T_arguments (d : Int) : Prop := ∀ (S : sv_S), sm_ok S → (0 ≤ (S 1020 0) ∧ (S 1020 0) < (S 1012 0) ∧ sm_TK (S 6) (S 8) (S 9) (S 10) (S 1012 0) ∧ 0 ≤ (S 1021 0) ∧ 0 ≤ (S 1004 0) ∧ (S 1004 0) ≤ 4000 ∧ 1 ≤ (S 1007 0) ∧ (S 1007 0) ≤ 90 ∧ sm_LN (S 4) 400 (S 1007 0) ∧ ((S 1021 0) = 0 → sm_WF (S 11) (S 12) (S 13) (S 1100001) (S 1100002) (S 1100005) (S 1100003) (S 1100004) (S 1024 0) (S 1007 0) (S 1009 0) (sm_fn (S 1032 0) (S 21) (S 1043 0)) ∧ sm_FT (S 11) (S 12) (S 13) (S 1100019) (S 17) (S 18) (S 21) (S 19) (S 20) (S 22) (S 1100016) (S 1024 0) (S 1007 0) (S 1009 0) (S 1032 0) (S 1032 0) ∧ sm_WG (S 1100001) (S 1100019) (S 1043 0) ∧ (S 1100016 (S 1043 0)) = 0 ∧ sm_RG (S 11) (S 12) (S 13) (S 1100035) (S 1024 0)) ∧ -1 ≤ (S 1100036 0) ∧ (S 1100036 0) < (S 1024 0) ∧ sm_HD (S 23) (S 24) (S 1100018 0) (S 1007 0) ∧ sm_HD (S 25) (fun _ : Int => (S 1042 0)) 1 (S 1007 0) ∧ 0 ≤ (S 1043 0) ∧ (S 1043 0) < (S 1100018 0) ∧ (S 1100018 0) = (S 1032 0) ∧ (S 1032 0) ≤ 1 + (S 1020 0) ∧ 0 ≤ (S 1031 0) ∧ (S 1031 0) ≤ 100 ∧ 0 ≤ (S 1044 0) ∧ (S 1044 0) ≤ 30 ∧ 0 ≤ (S 1045 0) ∧ (S 1045 0) ≤ 30 ∧ 0 ≤ (S 1024 0) ∧ ((S 1021 0) = 0 → 0 ≤ (S 1023 0) ∧ (S 1023 0) ≤ 20 ∧ (S 1031 0) ≤ 3 * (S 1023 0) + 5 ∧ (S 1024 0) ≤ 2 * (S 1020 0) ∧ (S 1044 0) ≤ (S 1023 0) ∧ (S 1045 0) ≤ (S 1023 0)) ∧ (S 1021 0) = 0 ∧ (S 6 (S 1020 0)) = 5) → (30 * (20 - (S 1023 0)) + 9) = d → sv_T sm_XS sm_cs sm_L sm_sh (30 * (20 - (S 1023 0)) + 9).toNat (q_arguments S) 57 0 (lv_args 0 [.ref 0]) [] S
def q_items (p1 : Int) (p2 : Int) (p3 : Int) (S : sv_S) : Option Value → sv_S → Prop := fun v S' => ∃ r : Int, v = some (sv_I r) ∧ sv_R r ∧ sm_ok S' ∧ sv_mod [1020, 1021, 1022, 1023, 5, 1011, 3, 4, 1007, 1009, 11, 12, 13, 14, 1024, 15, 16, 1031, 1032, 17, 18, 19, 20, 21, 22, 23, 24, 25, 1042, 1043, 1044, 1045, 1100001, 1100002, 1100005, 1100003, 1100004, 1100018, 1100019, 1100016, 1100035, 1100036] S S' ∧ ((S 1020 0) ≤ (S' 1020 0) ∧ (S' 1020 0) < (S' 1012 0) ∧ 0 ≤ (S' 1021 0) ∧ (0 < (S 1021 0) → 0 < (S' 1021 0)) ∧ (S 1007 0) ≤ (S' 1007 0) ∧ (S' 1007 0) ≤ 90 ∧ sm_LN (S' 4) 400 (S' 1007 0) ∧ ((S 1009 0) = 1 → (S' 1009 0) = 1) ∧ ((S' 1021 0) = 0 → sm_WF (S' 11) (S' 12) (S' 13) (S' 1100001) (S' 1100002) (S' 1100005) (S' 1100003) (S' 1100004) (S' 1024 0) (S' 1007 0) (S' 1009 0) (sm_fn (S' 1032 0) (S' 21) (S' 1043 0)) ∧ sm_PX (S 11) (S 12) (S 13) (S 1100001) (S 1100002) (S 1100005) (S 1100003) (S 1100004) (S' 11) (S' 12) (S' 13) (S' 1100001) (S' 1100002) (S' 1100005) (S' 1100003) (S' 1100004) (S 1024 0) ∧ sm_FT (S' 11) (S' 12) (S' 13) (S' 1100019) (S' 17) (S' 18) (S' 21) (S' 19) (S' 20) (S' 22) (S' 1100016) (S' 1024 0) (S' 1007 0) (S' 1009 0) (S' 1032 0) (S' 1032 0) ∧ sm_WG (S' 1100001) (S' 1100019) (S' 1043 0) ∧ sm_F1 (S 1100019) (S' 1100019) (S 1024 0) ∧ sm_F1 (S 1100035) (S' 1100035) (S 1024 0) ∧ sm_F1 (S 17) (S' 17) (S 1032 0) ∧ sm_F1 (S 18) (S' 18) (S 1032 0) ∧ sm_F1 (S 21) (S' 21) (S 1032 0) ∧ sm_F1 (S 20) (S' 20) (S 1032 0) ∧ sm_F1 (S 22) (S' 22) (S 1032 0) ∧ sm_F1 (S 1100016) (S' 1100016) (S 1032 0) ∧ sm_F1 (S 19) (S' 19) (8 * (S 1032 0)) ∧ sm_FN (S' 1100016) (S 1032 0) (S' 1032 0) ∧ sm_RG (S' 11) (S' 12) (S' 13) (S' 1100035) (S' 1024 0)) ∧ (S' 1100036 0) = (S 1100036 0) ∧ sm_KL (S 15) (S 16) (S' 15) (S' 16) (S 1031 0) ∧ sm_HD (S' 23) (S' 24) (S' 1100018 0) (S' 1007 0) ∧ sm_HD (S' 25) (fun _ : Int => (S' 1042 0)) 1 (S' 1007 0) ∧ (S' 1031 0) = (S 1031 0) ∧ (S' 1043 0) = (S 1043 0) ∧ (S' 1044 0) = (S 1044 0) ∧ (S' 1045 0) = (S 1045 0) ∧ (S 1032 0) ≤ (S' 1032 0) ∧ (S' 1032 0) ≤ 1 + (S' 1020 0) ∧ (S' 1100018 0) = (S' 1032 0) ∧ (S 1024 0) ≤ (S' 1024 0) ∧ ((S' 1021 0) = 0 → (S' 1023 0) = (S 1023 0) ∧ (S' 1024 0) + 2 ≤ (S 1024 0) + 2 * ((S' 1020 0) - (S 1020 0))) ∧ (0 < (S' 1021 0) → (S' 1024 0) ≤ (S 1024 0) + 2 * ((S' 1020 0) - (S 1020 0)) + 2 * (30 * (20 - (S 1023 0)) + 8)) ∧ -1 ≤ r ∧ r < 12000 ∧ ((S' 1021 0) = 0 → sm_li (S' 1100001) (S' 1100002) (S' 1100005) (S' 1024 0) 3 r p3 (19 - (S 1023 0)) ∧ (S 1020 0) < (S' 1020 0)))
def T_items (d : Int) : Prop := ∀ (p1 : Int) (p2 : Int) (p3 : Int) (S : sv_S), sm_ok S → sv_R p1 → sv_R p2 → sv_R p3 → (0 ≤ (S 1020 0) ∧ (S 1020 0) < (S 1012 0) ∧ sm_TK (S 6) (S 8) (S 9) (S 10) (S 1012 0) ∧ 0 ≤ (S 1021 0) ∧ 0 ≤ (S 1004 0) ∧ (S 1004 0) ≤ 4000 ∧ 1 ≤ (S 1007 0) ∧ (S 1007 0) ≤ 90 ∧ sm_LN (S 4) 400 (S 1007 0) ∧ ((S 1021 0) = 0 → sm_WF (S 11) (S 12) (S 13) (S 1100001) (S 1100002) (S 1100005) (S 1100003) (S 1100004) (S 1024 0) (S 1007 0) (S 1009 0) (sm_fn (S 1032 0) (S 21) (S 1043 0)) ∧ sm_FT (S 11) (S 12) (S 13) (S 1100019) (S 17) (S 18) (S 21) (S 19) (S 20) (S 22) (S 1100016) (S 1024 0) (S 1007 0) (S 1009 0) (S 1032 0) (S 1032 0) ∧ sm_WG (S 1100001) (S 1100019) (S 1043 0) ∧ (S 1100016 (S 1043 0)) = 0 ∧ sm_RG (S 11) (S 12) (S 13) (S 1100035) (S 1024 0)) ∧ -1 ≤ (S 1100036 0) ∧ (S 1100036 0) < (S 1024 0) ∧ sm_HD (S 23) (S 24) (S 1100018 0) (S 1007 0) ∧ sm_HD (S 25) (fun _ : Int => (S 1042 0)) 1 (S 1007 0) ∧ 0 ≤ (S 1043 0) ∧ (S 1043 0) < (S 1100018 0) ∧ (S 1100018 0) = (S 1032 0) ∧ (S 1032 0) ≤ 1 + (S 1020 0) ∧ 0 ≤ (S 1031 0) ∧ (S 1031 0) ≤ 100 ∧ 0 ≤ (S 1044 0) ∧ (S 1044 0) ≤ 30 ∧ 0 ≤ (S 1045 0) ∧ (S 1045 0) ≤ 30 ∧ 0 ≤ (S 1024 0) ∧ ((S 1021 0) = 0 → 0 ≤ (S 1023 0) ∧ (S 1023 0) ≤ 20 ∧ (S 1031 0) ≤ 3 * (S 1023 0) + 5 ∧ (S 1024 0) ≤ 2 * (S 1020 0) ∧ (S 1044 0) ≤ (S 1023 0) ∧ (S 1045 0) ≤ (S 1023 0)) ∧ (S 1021 0) = 0 ∧ (S 6 (S 1020 0)) = 5 ∧ 1 ≤ p3 ∧ p3 ≤ 16) → (30 * (20 - (S 1023 0)) + 8) = d → sv_T sm_XS sm_cs sm_L sm_sh (30 * (20 - (S 1023 0)) + 8).toNat (q_items p1 p2 p3 S) 58 0 (lv_args 0 [.ref 0, sv_I p1, sv_I p2, sv_I p3]) [] S
def q_primary (S : sv_S) : Option Value → sv_S → Prop := fun v S' => ∃ r : Int, v = some (sv_I r) ∧ sv_R r ∧ sm_ok S' ∧ sv_mod [1020, 1021, 1022, 1023, 5, 1011, 3, 4, 1007, 1009, 11, 12, 13, 14, 1024, 15, 16, 1031, 1032, 17, 18, 19, 20, 21, 22, 23, 24, 25, 1042, 1043, 1044, 1045, 1100001, 1100002, 1100005, 1100003, 1100004, 1100018, 1100019, 1100016, 1100035, 1100036] S S' ∧ ((S 1020 0) ≤ (S' 1020 0) ∧ (S' 1020 0) < (S' 1012 0) ∧ 0 ≤ (S' 1021 0) ∧ (0 < (S 1021 0) → 0 < (S' 1021 0)) ∧ (S 1007 0) ≤ (S' 1007 0) ∧ (S' 1007 0) ≤ 90 ∧ sm_LN (S' 4) 400 (S' 1007 0) ∧ ((S 1009 0) = 1 → (S' 1009 0) = 1) ∧ ((S' 1021 0) = 0 → sm_WF (S' 11) (S' 12) (S' 13) (S' 1100001) (S' 1100002) (S' 1100005) (S' 1100003) (S' 1100004) (S' 1024 0) (S' 1007 0) (S' 1009 0) (sm_fn (S' 1032 0) (S' 21) (S' 1043 0)) ∧ sm_PX (S 11) (S 12) (S 13) (S 1100001) (S 1100002) (S 1100005) (S 1100003) (S 1100004) (S' 11) (S' 12) (S' 13) (S' 1100001) (S' 1100002) (S' 1100005) (S' 1100003) (S' 1100004) (S 1024 0) ∧ sm_FT (S' 11) (S' 12) (S' 13) (S' 1100019) (S' 17) (S' 18) (S' 21) (S' 19) (S' 20) (S' 22) (S' 1100016) (S' 1024 0) (S' 1007 0) (S' 1009 0) (S' 1032 0) (S' 1032 0) ∧ sm_WG (S' 1100001) (S' 1100019) (S' 1043 0) ∧ sm_F1 (S 1100019) (S' 1100019) (S 1024 0) ∧ sm_F1 (S 1100035) (S' 1100035) (S 1024 0) ∧ sm_F1 (S 17) (S' 17) (S 1032 0) ∧ sm_F1 (S 18) (S' 18) (S 1032 0) ∧ sm_F1 (S 21) (S' 21) (S 1032 0) ∧ sm_F1 (S 20) (S' 20) (S 1032 0) ∧ sm_F1 (S 22) (S' 22) (S 1032 0) ∧ sm_F1 (S 1100016) (S' 1100016) (S 1032 0) ∧ sm_F1 (S 19) (S' 19) (8 * (S 1032 0)) ∧ sm_FN (S' 1100016) (S 1032 0) (S' 1032 0) ∧ sm_RG (S' 11) (S' 12) (S' 13) (S' 1100035) (S' 1024 0)) ∧ (S' 1100036 0) = (S 1100036 0) ∧ sm_KL (S 15) (S 16) (S' 15) (S' 16) (S 1031 0) ∧ sm_HD (S' 23) (S' 24) (S' 1100018 0) (S' 1007 0) ∧ sm_HD (S' 25) (fun _ : Int => (S' 1042 0)) 1 (S' 1007 0) ∧ (S' 1031 0) = (S 1031 0) ∧ (S' 1043 0) = (S 1043 0) ∧ (S' 1044 0) = (S 1044 0) ∧ (S' 1045 0) = (S 1045 0) ∧ (S 1032 0) ≤ (S' 1032 0) ∧ (S' 1032 0) ≤ 1 + (S' 1020 0) ∧ (S' 1100018 0) = (S' 1032 0) ∧ (S 1024 0) ≤ (S' 1024 0) ∧ ((S' 1021 0) = 0 → (S' 1023 0) = (S 1023 0) ∧ (S' 1024 0) + 1 ≤ (S 1024 0) + 2 * ((S' 1020 0) - (S 1020 0))) ∧ (0 < (S' 1021 0) → (S' 1024 0) ≤ (S 1024 0) + 2 * ((S' 1020 0) - (S 1020 0)) + 2 * (30 * (20 - (S 1023 0)) + 9)) ∧ -1 ≤ r ∧ r < 12000 ∧ ((S' 1021 0) = 0 → (S 1020 0) < (S' 1020 0) ∧ 1 ≤ (S 6 (S 1020 0)) ∧ sm_ex (S' 1100001) (S' 1100002) (S' 1100005) (S' 1024 0) 1 r (17 * (20 - (S 1023 0)) + 2) (20 - (S 1023 0)) ∧ ((S' 11 r) = 2 ∨ (S' 11 r) = 7 → (S' 1100002 r) ≤ 17 * (20 - (S 1023 0)) + 2)) ∧ (0 < (S 1021 0) → (S' 1020 0) = (S 1020 0) ∧ (S' 1024 0) = (S 1024 0)))
def T_primary (d : Int) : Prop := ∀ (S : sv_S), sm_ok S → (0 ≤ (S 1020 0) ∧ (S 1020 0) < (S 1012 0) ∧ sm_TK (S 6) (S 8) (S 9) (S 10) (S 1012 0) ∧ 0 ≤ (S 1021 0) ∧ 0 ≤ (S 1004 0) ∧ (S 1004 0) ≤ 4000 ∧ 1 ≤ (S 1007 0) ∧ (S 1007 0) ≤ 90 ∧ sm_LN (S 4) 400 (S 1007 0) ∧ ((S 1021 0) = 0 → sm_WF (S 11) (S 12) (S 13) (S 1100001) (S 1100002) (S 1100005) (S 1100003) (S 1100004) (S 1024 0) (S 1007 0) (S 1009 0) (sm_fn (S 1032 0) (S 21) (S 1043 0)) ∧ sm_FT (S 11) (S 12) (S 13) (S 1100019) (S 17) (S 18) (S 21) (S 19) (S 20) (S 22) (S 1100016) (S 1024 0) (S 1007 0) (S 1009 0) (S 1032 0) (S 1032 0) ∧ sm_WG (S 1100001) (S 1100019) (S 1043 0) ∧ (S 1100016 (S 1043 0)) = 0 ∧ sm_RG (S 11) (S 12) (S 13) (S 1100035) (S 1024 0)) ∧ -1 ≤ (S 1100036 0) ∧ (S 1100036 0) < (S 1024 0) ∧ sm_HD (S 23) (S 24) (S 1100018 0) (S 1007 0) ∧ sm_HD (S 25) (fun _ : Int => (S 1042 0)) 1 (S 1007 0) ∧ 0 ≤ (S 1043 0) ∧ (S 1043 0) < (S 1100018 0) ∧ (S 1100018 0) = (S 1032 0) ∧ (S 1032 0) ≤ 1 + (S 1020 0) ∧ 0 ≤ (S 1031 0) ∧ (S 1031 0) ≤ 100 ∧ 0 ≤ (S 1044 0) ∧ (S 1044 0) ≤ 30 ∧ 0 ≤ (S 1045 0) ∧ (S 1045 0) ≤ 30 ∧ 0 ≤ (S 1024 0) ∧ ((S 1021 0) = 0 → 0 ≤ (S 1023 0) ∧ (S 1023 0) ≤ 20 ∧ (S 1031 0) ≤ 3 * (S 1023 0) + 5 ∧ (S 1024 0) ≤ 2 * (S 1020 0) ∧ (S 1044 0) ≤ (S 1023 0) ∧ (S 1045 0) ≤ (S 1023 0)) ∧ (S 1021 0) = 0) → (30 * (20 - (S 1023 0)) + 9) = d → sv_T sm_XS sm_cs sm_L sm_sh (30 * (20 - (S 1023 0)) + 9).toNat (q_primary S) 59 0 (lv_args 0 [.ref 0]) [] S
def q_bracketed (S : sv_S) : Option Value → sv_S → Prop := fun v S' => ∃ r : Int, v = some (sv_I r) ∧ sv_R r ∧ sm_ok S' ∧ sv_mod [1020, 1021, 1022, 1023, 5, 1011, 3, 4, 1007, 1009, 11, 12, 13, 14, 1024, 15, 16, 1031, 1032, 17, 18, 19, 20, 21, 22, 23, 24, 25, 1042, 1043, 1044, 1045, 1100001, 1100002, 1100005, 1100003, 1100004, 1100018, 1100019, 1100016, 1100035, 1100036] S S' ∧ ((S 1020 0) ≤ (S' 1020 0) ∧ (S' 1020 0) < (S' 1012 0) ∧ 0 ≤ (S' 1021 0) ∧ (0 < (S 1021 0) → 0 < (S' 1021 0)) ∧ (S 1007 0) ≤ (S' 1007 0) ∧ (S' 1007 0) ≤ 90 ∧ sm_LN (S' 4) 400 (S' 1007 0) ∧ ((S 1009 0) = 1 → (S' 1009 0) = 1) ∧ ((S' 1021 0) = 0 → sm_WF (S' 11) (S' 12) (S' 13) (S' 1100001) (S' 1100002) (S' 1100005) (S' 1100003) (S' 1100004) (S' 1024 0) (S' 1007 0) (S' 1009 0) (sm_fn (S' 1032 0) (S' 21) (S' 1043 0)) ∧ sm_PX (S 11) (S 12) (S 13) (S 1100001) (S 1100002) (S 1100005) (S 1100003) (S 1100004) (S' 11) (S' 12) (S' 13) (S' 1100001) (S' 1100002) (S' 1100005) (S' 1100003) (S' 1100004) (S 1024 0) ∧ sm_FT (S' 11) (S' 12) (S' 13) (S' 1100019) (S' 17) (S' 18) (S' 21) (S' 19) (S' 20) (S' 22) (S' 1100016) (S' 1024 0) (S' 1007 0) (S' 1009 0) (S' 1032 0) (S' 1032 0) ∧ sm_WG (S' 1100001) (S' 1100019) (S' 1043 0) ∧ sm_F1 (S 1100019) (S' 1100019) (S 1024 0) ∧ sm_F1 (S 1100035) (S' 1100035) (S 1024 0) ∧ sm_F1 (S 17) (S' 17) (S 1032 0) ∧ sm_F1 (S 18) (S' 18) (S 1032 0) ∧ sm_F1 (S 21) (S' 21) (S 1032 0) ∧ sm_F1 (S 20) (S' 20) (S 1032 0) ∧ sm_F1 (S 22) (S' 22) (S 1032 0) ∧ sm_F1 (S 1100016) (S' 1100016) (S 1032 0) ∧ sm_F1 (S 19) (S' 19) (8 * (S 1032 0)) ∧ sm_FN (S' 1100016) (S 1032 0) (S' 1032 0) ∧ sm_RG (S' 11) (S' 12) (S' 13) (S' 1100035) (S' 1024 0)) ∧ (S' 1100036 0) = (S 1100036 0) ∧ sm_KL (S 15) (S 16) (S' 15) (S' 16) (S 1031 0) ∧ sm_HD (S' 23) (S' 24) (S' 1100018 0) (S' 1007 0) ∧ sm_HD (S' 25) (fun _ : Int => (S' 1042 0)) 1 (S' 1007 0) ∧ (S' 1031 0) = (S 1031 0) ∧ (S' 1043 0) = (S 1043 0) ∧ (S' 1044 0) = (S 1044 0) ∧ (S' 1045 0) = (S 1045 0) ∧ (S 1032 0) ≤ (S' 1032 0) ∧ (S' 1032 0) ≤ 1 + (S' 1020 0) ∧ (S' 1100018 0) = (S' 1032 0) ∧ (S 1024 0) ≤ (S' 1024 0) ∧ ((S' 1021 0) = 0 → (S' 1023 0) = (S 1023 0) ∧ (S' 1024 0) + 1 ≤ (S 1024 0) + 2 * ((S' 1020 0) - (S 1020 0))) ∧ (0 < (S' 1021 0) → (S' 1024 0) ≤ (S 1024 0) + 2 * ((S' 1020 0) - (S 1020 0)) + 2 * (30 * (20 - (S 1023 0)) + 8)) ∧ -1 ≤ r ∧ r < 12000 ∧ ((S' 1021 0) = 0 → (S 1020 0) < (S' 1020 0) ∧ 1 ≤ (S 6 (S 1020 0)) ∧ sm_ex (S' 1100001) (S' 1100002) (S' 1100005) (S' 1024 0) 1 r (17 * (20 - (S 1023 0)) + 2) (20 - (S 1023 0)) ∧ ((S' 11 r) = 2 ∨ (S' 11 r) = 7 → (S' 1100002 r) ≤ 17 * (20 - (S 1023 0)) + 2)))
def T_bracketed (d : Int) : Prop := ∀ (S : sv_S), sm_ok S → (0 ≤ (S 1020 0) ∧ (S 1020 0) < (S 1012 0) ∧ sm_TK (S 6) (S 8) (S 9) (S 10) (S 1012 0) ∧ 0 ≤ (S 1021 0) ∧ 0 ≤ (S 1004 0) ∧ (S 1004 0) ≤ 4000 ∧ 1 ≤ (S 1007 0) ∧ (S 1007 0) ≤ 90 ∧ sm_LN (S 4) 400 (S 1007 0) ∧ ((S 1021 0) = 0 → sm_WF (S 11) (S 12) (S 13) (S 1100001) (S 1100002) (S 1100005) (S 1100003) (S 1100004) (S 1024 0) (S 1007 0) (S 1009 0) (sm_fn (S 1032 0) (S 21) (S 1043 0)) ∧ sm_FT (S 11) (S 12) (S 13) (S 1100019) (S 17) (S 18) (S 21) (S 19) (S 20) (S 22) (S 1100016) (S 1024 0) (S 1007 0) (S 1009 0) (S 1032 0) (S 1032 0) ∧ sm_WG (S 1100001) (S 1100019) (S 1043 0) ∧ (S 1100016 (S 1043 0)) = 0 ∧ sm_RG (S 11) (S 12) (S 13) (S 1100035) (S 1024 0)) ∧ -1 ≤ (S 1100036 0) ∧ (S 1100036 0) < (S 1024 0) ∧ sm_HD (S 23) (S 24) (S 1100018 0) (S 1007 0) ∧ sm_HD (S 25) (fun _ : Int => (S 1042 0)) 1 (S 1007 0) ∧ 0 ≤ (S 1043 0) ∧ (S 1043 0) < (S 1100018 0) ∧ (S 1100018 0) = (S 1032 0) ∧ (S 1032 0) ≤ 1 + (S 1020 0) ∧ 0 ≤ (S 1031 0) ∧ (S 1031 0) ≤ 100 ∧ 0 ≤ (S 1044 0) ∧ (S 1044 0) ≤ 30 ∧ 0 ≤ (S 1045 0) ∧ (S 1045 0) ≤ 30 ∧ 0 ≤ (S 1024 0) ∧ ((S 1021 0) = 0 → 0 ≤ (S 1023 0) ∧ (S 1023 0) ≤ 20 ∧ (S 1031 0) ≤ 3 * (S 1023 0) + 5 ∧ (S 1024 0) ≤ 2 * (S 1020 0) ∧ (S 1044 0) ≤ (S 1023 0) ∧ (S 1045 0) ≤ (S 1023 0)) ∧ (S 1021 0) = 0 ∧ (S 6 (S 1020 0)) = 5) → (30 * (20 - (S 1023 0)) + 8) = d → sv_T sm_XS sm_cs sm_L sm_sh (30 * (20 - (S 1023 0)) + 8).toNat (q_bracketed S) 60 0 (lv_args 0 [.ref 0]) [] S
def q_pairs (S : sv_S) : Option Value → sv_S → Prop := fun v S' => ∃ r : Int, v = some (sv_I r) ∧ sv_R r ∧ sm_ok S' ∧ sv_mod [1020, 1021, 1022, 1023, 5, 1011, 3, 4, 1007, 1009, 11, 12, 13, 14, 1024, 15, 16, 1031, 1032, 17, 18, 19, 20, 21, 22, 23, 24, 25, 1042, 1043, 1044, 1045, 1100001, 1100002, 1100005, 1100003, 1100004, 1100018, 1100019, 1100016, 1100035, 1100036] S S' ∧ ((S 1020 0) ≤ (S' 1020 0) ∧ (S' 1020 0) < (S' 1012 0) ∧ 0 ≤ (S' 1021 0) ∧ (0 < (S 1021 0) → 0 < (S' 1021 0)) ∧ (S 1007 0) ≤ (S' 1007 0) ∧ (S' 1007 0) ≤ 90 ∧ sm_LN (S' 4) 400 (S' 1007 0) ∧ ((S 1009 0) = 1 → (S' 1009 0) = 1) ∧ ((S' 1021 0) = 0 → sm_WF (S' 11) (S' 12) (S' 13) (S' 1100001) (S' 1100002) (S' 1100005) (S' 1100003) (S' 1100004) (S' 1024 0) (S' 1007 0) (S' 1009 0) (sm_fn (S' 1032 0) (S' 21) (S' 1043 0)) ∧ sm_PX (S 11) (S 12) (S 13) (S 1100001) (S 1100002) (S 1100005) (S 1100003) (S 1100004) (S' 11) (S' 12) (S' 13) (S' 1100001) (S' 1100002) (S' 1100005) (S' 1100003) (S' 1100004) (S 1024 0) ∧ sm_FT (S' 11) (S' 12) (S' 13) (S' 1100019) (S' 17) (S' 18) (S' 21) (S' 19) (S' 20) (S' 22) (S' 1100016) (S' 1024 0) (S' 1007 0) (S' 1009 0) (S' 1032 0) (S' 1032 0) ∧ sm_WG (S' 1100001) (S' 1100019) (S' 1043 0) ∧ sm_F1 (S 1100019) (S' 1100019) (S 1024 0) ∧ sm_F1 (S 1100035) (S' 1100035) (S 1024 0) ∧ sm_F1 (S 17) (S' 17) (S 1032 0) ∧ sm_F1 (S 18) (S' 18) (S 1032 0) ∧ sm_F1 (S 21) (S' 21) (S 1032 0) ∧ sm_F1 (S 20) (S' 20) (S 1032 0) ∧ sm_F1 (S 22) (S' 22) (S 1032 0) ∧ sm_F1 (S 1100016) (S' 1100016) (S 1032 0) ∧ sm_F1 (S 19) (S' 19) (8 * (S 1032 0)) ∧ sm_FN (S' 1100016) (S 1032 0) (S' 1032 0) ∧ sm_RG (S' 11) (S' 12) (S' 13) (S' 1100035) (S' 1024 0)) ∧ (S' 1100036 0) = (S 1100036 0) ∧ sm_KL (S 15) (S 16) (S' 15) (S' 16) (S 1031 0) ∧ sm_HD (S' 23) (S' 24) (S' 1100018 0) (S' 1007 0) ∧ sm_HD (S' 25) (fun _ : Int => (S' 1042 0)) 1 (S' 1007 0) ∧ (S' 1031 0) = (S 1031 0) ∧ (S' 1043 0) = (S 1043 0) ∧ (S' 1044 0) = (S 1044 0) ∧ (S' 1045 0) = (S 1045 0) ∧ (S 1032 0) ≤ (S' 1032 0) ∧ (S' 1032 0) ≤ 1 + (S' 1020 0) ∧ (S' 1100018 0) = (S' 1032 0) ∧ (S 1024 0) ≤ (S' 1024 0) ∧ ((S' 1021 0) = 0 → (S' 1023 0) = (S 1023 0) ∧ (S' 1024 0) + 2 ≤ (S 1024 0) + 2 * ((S' 1020 0) - (S 1020 0))) ∧ (0 < (S' 1021 0) → (S' 1024 0) ≤ (S 1024 0) + 2 * ((S' 1020 0) - (S 1020 0)) + 2 * (30 * (20 - (S 1023 0)) + 8)) ∧ -1 ≤ r ∧ r < 12000 ∧ ((S' 1021 0) = 0 → sm_li (S' 1100001) (S' 1100002) (S' 1100005) (S' 1024 0) 4 r (17 * (20 - (S 1023 0))) (19 - (S 1023 0)) ∧ (S 1020 0) < (S' 1020 0)))
def T_pairs (d : Int) : Prop := ∀ (S : sv_S), sm_ok S → (0 ≤ (S 1020 0) ∧ (S 1020 0) < (S 1012 0) ∧ sm_TK (S 6) (S 8) (S 9) (S 10) (S 1012 0) ∧ 0 ≤ (S 1021 0) ∧ 0 ≤ (S 1004 0) ∧ (S 1004 0) ≤ 4000 ∧ 1 ≤ (S 1007 0) ∧ (S 1007 0) ≤ 90 ∧ sm_LN (S 4) 400 (S 1007 0) ∧ ((S 1021 0) = 0 → sm_WF (S 11) (S 12) (S 13) (S 1100001) (S 1100002) (S 1100005) (S 1100003) (S 1100004) (S 1024 0) (S 1007 0) (S 1009 0) (sm_fn (S 1032 0) (S 21) (S 1043 0)) ∧ sm_FT (S 11) (S 12) (S 13) (S 1100019) (S 17) (S 18) (S 21) (S 19) (S 20) (S 22) (S 1100016) (S 1024 0) (S 1007 0) (S 1009 0) (S 1032 0) (S 1032 0) ∧ sm_WG (S 1100001) (S 1100019) (S 1043 0) ∧ (S 1100016 (S 1043 0)) = 0 ∧ sm_RG (S 11) (S 12) (S 13) (S 1100035) (S 1024 0)) ∧ -1 ≤ (S 1100036 0) ∧ (S 1100036 0) < (S 1024 0) ∧ sm_HD (S 23) (S 24) (S 1100018 0) (S 1007 0) ∧ sm_HD (S 25) (fun _ : Int => (S 1042 0)) 1 (S 1007 0) ∧ 0 ≤ (S 1043 0) ∧ (S 1043 0) < (S 1100018 0) ∧ (S 1100018 0) = (S 1032 0) ∧ (S 1032 0) ≤ 1 + (S 1020 0) ∧ 0 ≤ (S 1031 0) ∧ (S 1031 0) ≤ 100 ∧ 0 ≤ (S 1044 0) ∧ (S 1044 0) ≤ 30 ∧ 0 ≤ (S 1045 0) ∧ (S 1045 0) ≤ 30 ∧ 0 ≤ (S 1024 0) ∧ ((S 1021 0) = 0 → 0 ≤ (S 1023 0) ∧ (S 1023 0) ≤ 20 ∧ (S 1031 0) ≤ 3 * (S 1023 0) + 5 ∧ (S 1024 0) ≤ 2 * (S 1020 0) ∧ (S 1044 0) ≤ (S 1023 0) ∧ (S 1045 0) ≤ (S 1023 0)) ∧ (S 1021 0) = 0 ∧ (S 6 (S 1020 0)) = 5) → (30 * (20 - (S 1023 0)) + 8) = d → sv_T sm_XS sm_cs sm_L sm_sh (30 * (20 - (S 1023 0)) + 8).toNat (q_pairs S) 61 0 (lv_args 0 [.ref 0]) [] S
def q_function (p1 : Int) (S : sv_S) : Option Value → sv_S → Prop := fun v S' => ∃ r : Int, v = some (sv_I r) ∧ sv_R r ∧ sm_ok S' ∧ sv_mod [1020, 1021, 1022, 1023, 5, 1011, 3, 4, 1007, 1009, 11, 12, 13, 14, 1024, 15, 16, 1031, 1032, 17, 18, 19, 20, 21, 22, 23, 24, 25, 1042, 1043, 1044, 1045, 1100001, 1100002, 1100005, 1100003, 1100004, 1100018, 1100019, 1100016, 1100035, 1100036] S S' ∧ ((S 1020 0) ≤ (S' 1020 0) ∧ (S' 1020 0) < (S' 1012 0) ∧ 0 ≤ (S' 1021 0) ∧ (0 < (S 1021 0) → 0 < (S' 1021 0)) ∧ (S 1007 0) ≤ (S' 1007 0) ∧ (S' 1007 0) ≤ 90 ∧ sm_LN (S' 4) 400 (S' 1007 0) ∧ ((S 1009 0) = 1 → (S' 1009 0) = 1) ∧ ((S' 1021 0) = 0 → sm_WF (S' 11) (S' 12) (S' 13) (S' 1100001) (S' 1100002) (S' 1100005) (S' 1100003) (S' 1100004) (S' 1024 0) (S' 1007 0) (S' 1009 0) (sm_fn (S' 1032 0) (S' 21) (S' 1043 0)) ∧ sm_PX (S 11) (S 12) (S 13) (S 1100001) (S 1100002) (S 1100005) (S 1100003) (S 1100004) (S' 11) (S' 12) (S' 13) (S' 1100001) (S' 1100002) (S' 1100005) (S' 1100003) (S' 1100004) (S 1024 0) ∧ sm_FT (S' 11) (S' 12) (S' 13) (S' 1100019) (S' 17) (S' 18) (S' 21) (S' 19) (S' 20) (S' 22) (S' 1100016) (S' 1024 0) (S' 1007 0) (S' 1009 0) (S' 1032 0) (S' 1032 0) ∧ sm_WG (S' 1100001) (S' 1100019) (S' 1043 0) ∧ sm_F1 (S 1100019) (S' 1100019) (S 1024 0) ∧ sm_F1 (S 1100035) (S' 1100035) (S 1024 0) ∧ sm_F1 (S 17) (S' 17) (S 1032 0) ∧ sm_F1 (S 18) (S' 18) (S 1032 0) ∧ sm_F1 (S 21) (S' 21) (S 1032 0) ∧ sm_F1 (S 20) (S' 20) (S 1032 0) ∧ sm_F1 (S 22) (S' 22) (S 1032 0) ∧ sm_F1 (S 1100016) (S' 1100016) (S 1032 0) ∧ sm_F1 (S 19) (S' 19) (8 * (S 1032 0)) ∧ sm_FN (S' 1100016) (S 1032 0) (S' 1032 0) ∧ sm_RG (S' 11) (S' 12) (S' 13) (S' 1100035) (S' 1024 0)) ∧ (S' 1100036 0) = (S 1100036 0) ∧ sm_KL (S 15) (S 16) (S' 15) (S' 16) (S 1031 0) ∧ sm_HD (S' 23) (S' 24) (S' 1100018 0) (S' 1007 0) ∧ sm_HD (S' 25) (fun _ : Int => (S' 1042 0)) 1 (S' 1007 0) ∧ (S' 1031 0) = (S 1031 0) ∧ (S' 1043 0) = (S 1043 0) ∧ (S' 1044 0) = (S 1044 0) ∧ (S' 1045 0) = (S 1045 0) ∧ (S 1032 0) ≤ (S' 1032 0) ∧ (S' 1032 0) ≤ 1 + (S' 1020 0) ∧ (S' 1100018 0) = (S' 1032 0) ∧ (S 1024 0) ≤ (S' 1024 0) ∧ ((S' 1021 0) = 0 → (S' 1023 0) = (S 1023 0) ∧ (S' 1024 0) + 2 ≤ (S 1024 0) + 2 * ((S' 1020 0) - (S 1020 0))) ∧ (0 < (S' 1021 0) → (S' 1024 0) ≤ (S 1024 0) + 2 * ((S' 1020 0) - (S 1020 0)) + 2 * (30 * (20 - (S 1023 0)) + 8)) ∧ 0 ≤ r ∧ ((S' 1021 0) = 0 → 1 ≤ r ∧ r < (S' 1032 0) ∧ (r < 12 → (S' 21 r) = (S 1043 0)) ∧ (S 1020 0) < (S' 1020 0)))
def T_function (d : Int) : Prop := ∀ (p1 : Int) (S : sv_S), sm_ok S → (0 ≤ p1 ∧ p1 ≤ 1) → (0 ≤ (S 1020 0) ∧ (S 1020 0) < (S 1012 0) ∧ sm_TK (S 6) (S 8) (S 9) (S 10) (S 1012 0) ∧ 0 ≤ (S 1021 0) ∧ 0 ≤ (S 1004 0) ∧ (S 1004 0) ≤ 4000 ∧ 1 ≤ (S 1007 0) ∧ (S 1007 0) ≤ 90 ∧ sm_LN (S 4) 400 (S 1007 0) ∧ ((S 1021 0) = 0 → sm_WF (S 11) (S 12) (S 13) (S 1100001) (S 1100002) (S 1100005) (S 1100003) (S 1100004) (S 1024 0) (S 1007 0) (S 1009 0) (sm_fn (S 1032 0) (S 21) (S 1043 0)) ∧ sm_FT (S 11) (S 12) (S 13) (S 1100019) (S 17) (S 18) (S 21) (S 19) (S 20) (S 22) (S 1100016) (S 1024 0) (S 1007 0) (S 1009 0) (S 1032 0) (S 1032 0) ∧ sm_WG (S 1100001) (S 1100019) (S 1043 0) ∧ (S 1100016 (S 1043 0)) = 0 ∧ sm_RG (S 11) (S 12) (S 13) (S 1100035) (S 1024 0)) ∧ -1 ≤ (S 1100036 0) ∧ (S 1100036 0) < (S 1024 0) ∧ sm_HD (S 23) (S 24) (S 1100018 0) (S 1007 0) ∧ sm_HD (S 25) (fun _ : Int => (S 1042 0)) 1 (S 1007 0) ∧ 0 ≤ (S 1043 0) ∧ (S 1043 0) < (S 1100018 0) ∧ (S 1100018 0) = (S 1032 0) ∧ (S 1032 0) ≤ 1 + (S 1020 0) ∧ 0 ≤ (S 1031 0) ∧ (S 1031 0) ≤ 100 ∧ 0 ≤ (S 1044 0) ∧ (S 1044 0) ≤ 30 ∧ 0 ≤ (S 1045 0) ∧ (S 1045 0) ≤ 30 ∧ 0 ≤ (S 1024 0) ∧ ((S 1021 0) = 0 → 0 ≤ (S 1023 0) ∧ (S 1023 0) ≤ 20 ∧ (S 1031 0) ≤ 3 * (S 1023 0) + 5 ∧ (S 1024 0) ≤ 2 * (S 1020 0) ∧ (S 1044 0) ≤ (S 1023 0) ∧ (S 1045 0) ≤ (S 1023 0)) ∧ (S 1021 0) = 0 ∧ (S 6 (S 1020 0)) = 2) → (30 * (20 - (S 1023 0)) + 8) = d → sv_T sm_XS sm_cs sm_L sm_sh (30 * (20 - (S 1023 0)) + 8).toNat (q_function p1 S) 62 0 (lv_args 0 [.ref 0, sv_I p1]) [] S
def q_parts (p1 : Int) (S : sv_S) : Option Value → sv_S → Prop := fun v S' => ∃ r : Int, v = some (sv_I r) ∧ sv_R r ∧ sm_ok S' ∧ sv_mod [1020, 1021, 1022, 1023, 5, 1011, 3, 4, 1007, 1009, 11, 12, 13, 14, 1024, 15, 16, 1031, 1032, 17, 18, 19, 20, 21, 22, 23, 24, 25, 1042, 1043, 1044, 1045, 1100001, 1100002, 1100005, 1100003, 1100004, 1100018, 1100019, 1100016, 1100035, 1100036] S S' ∧ ((S 1020 0) ≤ (S' 1020 0) ∧ (S' 1020 0) < (S' 1012 0) ∧ 0 ≤ (S' 1021 0) ∧ (0 < (S 1021 0) → 0 < (S' 1021 0)) ∧ (S 1007 0) ≤ (S' 1007 0) ∧ (S' 1007 0) ≤ 90 ∧ sm_LN (S' 4) 400 (S' 1007 0) ∧ ((S 1009 0) = 1 → (S' 1009 0) = 1) ∧ ((S' 1021 0) = 0 → sm_WF (S' 11) (S' 12) (S' 13) (S' 1100001) (S' 1100002) (S' 1100005) (S' 1100003) (S' 1100004) (S' 1024 0) (S' 1007 0) (S' 1009 0) (sm_fn (S' 1032 0) (S' 21) (S' 1043 0)) ∧ sm_PX (S 11) (S 12) (S 13) (S 1100001) (S 1100002) (S 1100005) (S 1100003) (S 1100004) (S' 11) (S' 12) (S' 13) (S' 1100001) (S' 1100002) (S' 1100005) (S' 1100003) (S' 1100004) (S 1024 0) ∧ sm_FT (S' 11) (S' 12) (S' 13) (S' 1100019) (S' 17) (S' 18) (S' 21) (S' 19) (S' 20) (S' 22) (S' 1100016) (S' 1024 0) (S' 1007 0) (S' 1009 0) (S' 1032 0) (S' 1032 0) ∧ sm_WG (S' 1100001) (S' 1100019) (S' 1043 0) ∧ sm_F1 (S 1100019) (S' 1100019) (S 1024 0) ∧ sm_F1 (S 1100035) (S' 1100035) (S 1024 0) ∧ sm_F1 (S 17) (S' 17) (S 1032 0) ∧ sm_F1 (S 18) (S' 18) (S 1032 0) ∧ sm_F1 (S 21) (S' 21) (S 1032 0) ∧ sm_F1 (S 20) (S' 20) (S 1032 0) ∧ sm_F1 (S 22) (S' 22) (S 1032 0) ∧ sm_F1 (S 1100016) (S' 1100016) (S 1032 0) ∧ sm_F1 (S 19) (S' 19) (8 * (S 1032 0)) ∧ sm_FN (S' 1100016) (S 1032 0) (S' 1032 0) ∧ sm_RG (S' 11) (S' 12) (S' 13) (S' 1100035) (S' 1024 0)) ∧ (S' 1100036 0) = (S 1100036 0) ∧ sm_KL (S 15) (S 16) (S' 15) (S' 16) (S 1031 0) ∧ sm_HD (S' 23) (S' 24) (S' 1100018 0) (S' 1007 0) ∧ sm_HD (S' 25) (fun _ : Int => (S' 1042 0)) 1 (S' 1007 0) ∧ (S' 1031 0) = (S 1031 0) ∧ (S' 1043 0) = (S 1043 0) ∧ (S' 1044 0) = (S 1044 0) ∧ (S' 1045 0) = (S 1045 0) ∧ (S 1032 0) ≤ (S' 1032 0) ∧ (S' 1032 0) ≤ 1 + (S' 1020 0) ∧ (S' 1100018 0) = (S' 1032 0) ∧ (S 1024 0) ≤ (S' 1024 0) ∧ ((S' 1021 0) = 0 → (S' 1023 0) = (S 1023 0) ∧ (S' 1024 0) + 0 ≤ (S 1024 0) + 2 * ((S' 1020 0) - (S 1020 0))) ∧ (0 < (S' 1021 0) → (S' 1024 0) ≤ (S 1024 0) + 2 * ((S' 1020 0) - (S 1020 0)) + 2 * (30 * (20 - (S 1023 0)) + 28)) ∧ -1 ≤ r ∧ r < 12000 ∧ ((S' 1021 0) = 0 → sm_sl (S' 1100001) (S' 1100002) (S' 1100005) (S' 1100003) (S' 1100004) (S' 1024 0) 2 r (17 * (20 - (S 1023 0)) + 5) (20 - (S 1023 0)) (if 0 < (S 1044 0) then 1 else 0) (if 0 < (S 1044 0) + (S 1045 0) then 1 else 0) ∧ (r = -1 ∨ (0 ≤ r ∧ r < (S' 1024 0) ∧ (S' 1100035 r) = (S' 1100036 0)))))
def T_parts (d : Int) : Prop := ∀ (p1 : Int) (S : sv_S), sm_ok S → (0 ≤ p1 ∧ p1 ≤ 1) → (0 ≤ (S 1020 0) ∧ (S 1020 0) < (S 1012 0) ∧ sm_TK (S 6) (S 8) (S 9) (S 10) (S 1012 0) ∧ 0 ≤ (S 1021 0) ∧ 0 ≤ (S 1004 0) ∧ (S 1004 0) ≤ 4000 ∧ 1 ≤ (S 1007 0) ∧ (S 1007 0) ≤ 90 ∧ sm_LN (S 4) 400 (S 1007 0) ∧ ((S 1021 0) = 0 → sm_WF (S 11) (S 12) (S 13) (S 1100001) (S 1100002) (S 1100005) (S 1100003) (S 1100004) (S 1024 0) (S 1007 0) (S 1009 0) (sm_fn (S 1032 0) (S 21) (S 1043 0)) ∧ sm_FT (S 11) (S 12) (S 13) (S 1100019) (S 17) (S 18) (S 21) (S 19) (S 20) (S 22) (S 1100016) (S 1024 0) (S 1007 0) (S 1009 0) (S 1032 0) (S 1032 0) ∧ sm_WG (S 1100001) (S 1100019) (S 1043 0) ∧ (S 1100016 (S 1043 0)) = 0 ∧ sm_RG (S 11) (S 12) (S 13) (S 1100035) (S 1024 0)) ∧ -1 ≤ (S 1100036 0) ∧ (S 1100036 0) < (S 1024 0) ∧ sm_HD (S 23) (S 24) (S 1100018 0) (S 1007 0) ∧ sm_HD (S 25) (fun _ : Int => (S 1042 0)) 1 (S 1007 0) ∧ 0 ≤ (S 1043 0) ∧ (S 1043 0) < (S 1100018 0) ∧ (S 1100018 0) = (S 1032 0) ∧ (S 1032 0) ≤ 1 + (S 1020 0) ∧ 0 ≤ (S 1031 0) ∧ (S 1031 0) ≤ 100 ∧ 0 ≤ (S 1044 0) ∧ (S 1044 0) ≤ 30 ∧ 0 ≤ (S 1045 0) ∧ (S 1045 0) ≤ 30 ∧ 0 ≤ (S 1024 0) ∧ ((S 1021 0) = 0 → 0 ≤ (S 1023 0) ∧ (S 1023 0) ≤ 20 ∧ (S 1031 0) ≤ 3 * (S 1023 0) + 5 ∧ (S 1024 0) ≤ 2 * (S 1020 0) ∧ (S 1044 0) ≤ (S 1023 0) ∧ (S 1045 0) ≤ (S 1023 0)) ∧ (S 1021 0) = 0 ∧ (S 1031 0) + 1 ≤ 3 * (S 1023 0) + 5) → (30 * (20 - (S 1023 0)) + 28) = d → sv_T sm_XS sm_cs sm_L sm_sh (30 * (20 - (S 1023 0)) + 28).toNat (q_parts p1 S) 65 0 (lv_args 0 [.ref 0, sv_I p1]) [] S
def q_statement (S : sv_S) : Option Value → sv_S → Prop := fun v S' => ∃ r : Int, v = some (sv_I r) ∧ sv_R r ∧ sm_ok S' ∧ sv_mod [1020, 1021, 1022, 1023, 5, 1011, 3, 4, 1007, 1009, 11, 12, 13, 14, 1024, 15, 16, 1031, 1032, 17, 18, 19, 20, 21, 22, 23, 24, 25, 1042, 1043, 1044, 1045, 1100001, 1100002, 1100005, 1100003, 1100004, 1100018, 1100019, 1100016, 1100035, 1100036] S S' ∧ ((S 1020 0) ≤ (S' 1020 0) ∧ (S' 1020 0) < (S' 1012 0) ∧ 0 ≤ (S' 1021 0) ∧ (0 < (S 1021 0) → 0 < (S' 1021 0)) ∧ (S 1007 0) ≤ (S' 1007 0) ∧ (S' 1007 0) ≤ 90 ∧ sm_LN (S' 4) 400 (S' 1007 0) ∧ ((S 1009 0) = 1 → (S' 1009 0) = 1) ∧ ((S' 1021 0) = 0 → sm_WF (S' 11) (S' 12) (S' 13) (S' 1100001) (S' 1100002) (S' 1100005) (S' 1100003) (S' 1100004) (S' 1024 0) (S' 1007 0) (S' 1009 0) (sm_fn (S' 1032 0) (S' 21) (S' 1043 0)) ∧ sm_PX (S 11) (S 12) (S 13) (S 1100001) (S 1100002) (S 1100005) (S 1100003) (S 1100004) (S' 11) (S' 12) (S' 13) (S' 1100001) (S' 1100002) (S' 1100005) (S' 1100003) (S' 1100004) (S 1024 0) ∧ sm_FT (S' 11) (S' 12) (S' 13) (S' 1100019) (S' 17) (S' 18) (S' 21) (S' 19) (S' 20) (S' 22) (S' 1100016) (S' 1024 0) (S' 1007 0) (S' 1009 0) (S' 1032 0) (S' 1032 0) ∧ sm_WG (S' 1100001) (S' 1100019) (S' 1043 0) ∧ sm_F1 (S 1100019) (S' 1100019) (S 1024 0) ∧ sm_F1 (S 1100035) (S' 1100035) (S 1024 0) ∧ sm_F1 (S 17) (S' 17) (S 1032 0) ∧ sm_F1 (S 18) (S' 18) (S 1032 0) ∧ sm_F1 (S 21) (S' 21) (S 1032 0) ∧ sm_F1 (S 20) (S' 20) (S 1032 0) ∧ sm_F1 (S 22) (S' 22) (S 1032 0) ∧ sm_F1 (S 1100016) (S' 1100016) (S 1032 0) ∧ sm_F1 (S 19) (S' 19) (8 * (S 1032 0)) ∧ sm_FN (S' 1100016) (S 1032 0) (S' 1032 0) ∧ sm_RG (S' 11) (S' 12) (S' 13) (S' 1100035) (S' 1024 0)) ∧ (S' 1100036 0) = (S 1100036 0) ∧ sm_KL (S 15) (S 16) (S' 15) (S' 16) (S 1031 0) ∧ sm_HD (S' 23) (S' 24) (S' 1100018 0) (S' 1007 0) ∧ sm_HD (S' 25) (fun _ : Int => (S' 1042 0)) 1 (S' 1007 0) ∧ (S' 1031 0) = (S 1031 0) ∧ (S' 1043 0) = (S 1043 0) ∧ (S' 1044 0) = (S 1044 0) ∧ (S' 1045 0) = (S 1045 0) ∧ (S 1032 0) ≤ (S' 1032 0) ∧ (S' 1032 0) ≤ 1 + (S' 1020 0) ∧ (S' 1100018 0) = (S' 1032 0) ∧ (S 1024 0) ≤ (S' 1024 0) ∧ ((S' 1021 0) = 0 → (S' 1023 0) = (S 1023 0) ∧ (S' 1024 0) + 0 ≤ (S 1024 0) + 2 * ((S' 1020 0) - (S 1020 0))) ∧ (0 < (S' 1021 0) → (S' 1024 0) ≤ (S 1024 0) + 2 * ((S' 1020 0) - (S 1020 0)) + 2 * ((if 0 < (S 1021 0) then 1 else 30 * (20 - (S 1023 0)) + 27))) ∧ -1 ≤ r ∧ r < 12000 ∧ ((S' 1021 0) = 0 → (S 1020 0) < (S' 1020 0) ∧ (S 1024 0) ≤ r ∧ sm_sx (S' 1100001) (S' 1100002) (S' 1100005) (S' 1100003) (S' 1100004) (S' 1024 0) 2 r (17 * (20 - (S 1023 0)) + 5) (20 - (S 1023 0)) (if 0 < (S 1044 0) then 1 else 0) (if 0 < (S 1044 0) + (S 1045 0) then 1 else 0) ∧ (S' 1100002 r) = (17 * (20 - (S 1023 0)) + 5) ∧ (S' 1100005 r) = (20 - (S 1023 0)) ∧ (S' 1100003 r) = (if 0 < (S 1044 0) then 1 else 0) ∧ (S' 1100004 r) = (if 0 < (S 1044 0) + (S 1045 0) then 1 else 0) ∧ 0 ≤ r ∧ r < (S' 1024 0) ∧ (S' 1100035 r) = (S' 1100036 0)) ∧ (0 < (S 1021 0) → (S' 1020 0) = (S 1020 0) ∧ (S' 1024 0) = (S 1024 0)))
def T_statement (d : Int) : Prop := ∀ (S : sv_S), sm_ok S → (0 ≤ (S 1020 0) ∧ (S 1020 0) < (S 1012 0) ∧ sm_TK (S 6) (S 8) (S 9) (S 10) (S 1012 0) ∧ 0 ≤ (S 1021 0) ∧ 0 ≤ (S 1004 0) ∧ (S 1004 0) ≤ 4000 ∧ 1 ≤ (S 1007 0) ∧ (S 1007 0) ≤ 90 ∧ sm_LN (S 4) 400 (S 1007 0) ∧ ((S 1021 0) = 0 → sm_WF (S 11) (S 12) (S 13) (S 1100001) (S 1100002) (S 1100005) (S 1100003) (S 1100004) (S 1024 0) (S 1007 0) (S 1009 0) (sm_fn (S 1032 0) (S 21) (S 1043 0)) ∧ sm_FT (S 11) (S 12) (S 13) (S 1100019) (S 17) (S 18) (S 21) (S 19) (S 20) (S 22) (S 1100016) (S 1024 0) (S 1007 0) (S 1009 0) (S 1032 0) (S 1032 0) ∧ sm_WG (S 1100001) (S 1100019) (S 1043 0) ∧ (S 1100016 (S 1043 0)) = 0 ∧ sm_RG (S 11) (S 12) (S 13) (S 1100035) (S 1024 0)) ∧ -1 ≤ (S 1100036 0) ∧ (S 1100036 0) < (S 1024 0) ∧ sm_HD (S 23) (S 24) (S 1100018 0) (S 1007 0) ∧ sm_HD (S 25) (fun _ : Int => (S 1042 0)) 1 (S 1007 0) ∧ 0 ≤ (S 1043 0) ∧ (S 1043 0) < (S 1100018 0) ∧ (S 1100018 0) = (S 1032 0) ∧ (S 1032 0) ≤ 1 + (S 1020 0) ∧ 0 ≤ (S 1031 0) ∧ (S 1031 0) ≤ 100 ∧ 0 ≤ (S 1044 0) ∧ (S 1044 0) ≤ 30 ∧ 0 ≤ (S 1045 0) ∧ (S 1045 0) ≤ 30 ∧ 0 ≤ (S 1024 0) ∧ ((S 1021 0) = 0 → 0 ≤ (S 1023 0) ∧ (S 1023 0) ≤ 20 ∧ (S 1031 0) ≤ 3 * (S 1023 0) + 5 ∧ (S 1024 0) ≤ 2 * (S 1020 0) ∧ (S 1044 0) ≤ (S 1023 0) ∧ (S 1045 0) ≤ (S 1023 0))) → ((if 0 < (S 1021 0) then 1 else 30 * (20 - (S 1023 0)) + 27)) = d → sv_T sm_XS sm_cs sm_L sm_sh ((if 0 < (S 1021 0) then 1 else 30 * (20 - (S 1023 0)) + 27)).toNat (q_statement S) 67 0 (lv_args 0 [.ref 0]) [] S
def q_statementBody (S : sv_S) : Option Value → sv_S → Prop := fun v S' => ∃ r : Int, v = some (sv_I r) ∧ sv_R r ∧ sm_ok S' ∧ sv_mod [1020, 1021, 1022, 1023, 5, 1011, 3, 4, 1007, 1009, 11, 12, 13, 14, 1024, 15, 16, 1031, 1032, 17, 18, 19, 20, 21, 22, 23, 24, 25, 1042, 1043, 1044, 1045, 1100001, 1100002, 1100005, 1100003, 1100004, 1100018, 1100019, 1100016, 1100035, 1100036] S S' ∧ ((S 1020 0) ≤ (S' 1020 0) ∧ (S' 1020 0) < (S' 1012 0) ∧ 0 ≤ (S' 1021 0) ∧ (0 < (S 1021 0) → 0 < (S' 1021 0)) ∧ (S 1007 0) ≤ (S' 1007 0) ∧ (S' 1007 0) ≤ 90 ∧ sm_LN (S' 4) 400 (S' 1007 0) ∧ ((S 1009 0) = 1 → (S' 1009 0) = 1) ∧ ((S' 1021 0) = 0 → sm_WF (S' 11) (S' 12) (S' 13) (S' 1100001) (S' 1100002) (S' 1100005) (S' 1100003) (S' 1100004) (S' 1024 0) (S' 1007 0) (S' 1009 0) (sm_fn (S' 1032 0) (S' 21) (S' 1043 0)) ∧ sm_PX (S 11) (S 12) (S 13) (S 1100001) (S 1100002) (S 1100005) (S 1100003) (S 1100004) (S' 11) (S' 12) (S' 13) (S' 1100001) (S' 1100002) (S' 1100005) (S' 1100003) (S' 1100004) (S 1024 0) ∧ sm_FT (S' 11) (S' 12) (S' 13) (S' 1100019) (S' 17) (S' 18) (S' 21) (S' 19) (S' 20) (S' 22) (S' 1100016) (S' 1024 0) (S' 1007 0) (S' 1009 0) (S' 1032 0) (S' 1032 0) ∧ sm_WG (S' 1100001) (S' 1100019) (S' 1043 0) ∧ sm_F1 (S 1100019) (S' 1100019) (S 1024 0) ∧ sm_F1 (S 1100035) (S' 1100035) (S 1024 0) ∧ sm_F1 (S 17) (S' 17) (S 1032 0) ∧ sm_F1 (S 18) (S' 18) (S 1032 0) ∧ sm_F1 (S 21) (S' 21) (S 1032 0) ∧ sm_F1 (S 20) (S' 20) (S 1032 0) ∧ sm_F1 (S 22) (S' 22) (S 1032 0) ∧ sm_F1 (S 1100016) (S' 1100016) (S 1032 0) ∧ sm_F1 (S 19) (S' 19) (8 * (S 1032 0)) ∧ sm_FN (S' 1100016) (S 1032 0) (S' 1032 0) ∧ sm_RG (S' 11) (S' 12) (S' 13) (S' 1100035) (S' 1024 0)) ∧ (S' 1100036 0) = (S 1100036 0) ∧ sm_KL (S 15) (S 16) (S' 15) (S' 16) (S 1031 0) ∧ sm_HD (S' 23) (S' 24) (S' 1100018 0) (S' 1007 0) ∧ sm_HD (S' 25) (fun _ : Int => (S' 1042 0)) 1 (S' 1007 0) ∧ (S' 1031 0) = (S 1031 0) ∧ (S' 1043 0) = (S 1043 0) ∧ (S' 1044 0) = (S 1044 0) ∧ (S' 1045 0) = (S 1045 0) ∧ (S 1032 0) ≤ (S' 1032 0) ∧ (S' 1032 0) ≤ 1 + (S' 1020 0) ∧ (S' 1100018 0) = (S' 1032 0) ∧ (S 1024 0) ≤ (S' 1024 0) ∧ ((S' 1021 0) = 0 → (S' 1023 0) = (S 1023 0) ∧ (S' 1024 0) + 0 ≤ (S 1024 0) + 2 * ((S' 1020 0) - (S 1020 0))) ∧ (0 < (S' 1021 0) → (S' 1024 0) ≤ (S 1024 0) + 2 * ((S' 1020 0) - (S 1020 0)) + 2 * (30 * (20 - (S 1023 0)) + 31)) ∧ -1 ≤ r ∧ r < 12000 ∧ ((S' 1021 0) = 0 → (S 1020 0) < (S' 1020 0) ∧ (S 1024 0) ≤ r ∧ sm_sx (S' 1100001) (S' 1100002) (S' 1100005) (S' 1100003) (S' 1100004) (S' 1024 0) 2 r (17 * (21 - (S 1023 0)) + 5) (21 - (S 1023 0)) (if 0 < (S 1044 0) then 1 else 0) (if 0 < (S 1044 0) + (S 1045 0) then 1 else 0) ∧ (S' 1100002 r) = (17 * (21 - (S 1023 0)) + 5) ∧ (S' 1100005 r) = (21 - (S 1023 0)) ∧ (S' 1100003 r) = (if 0 < (S 1044 0) then 1 else 0) ∧ (S' 1100004 r) = (if 0 < (S 1044 0) + (S 1045 0) then 1 else 0) ∧ 0 ≤ r ∧ r < (S' 1024 0) ∧ (S' 1100035 r) = (S' 1100036 0)))
def T_statementBody (d : Int) : Prop := ∀ (S : sv_S), sm_ok S → (0 ≤ (S 1020 0) ∧ (S 1020 0) < (S 1012 0) ∧ sm_TK (S 6) (S 8) (S 9) (S 10) (S 1012 0) ∧ 0 ≤ (S 1021 0) ∧ 0 ≤ (S 1004 0) ∧ (S 1004 0) ≤ 4000 ∧ 1 ≤ (S 1007 0) ∧ (S 1007 0) ≤ 90 ∧ sm_LN (S 4) 400 (S 1007 0) ∧ ((S 1021 0) = 0 → sm_WF (S 11) (S 12) (S 13) (S 1100001) (S 1100002) (S 1100005) (S 1100003) (S 1100004) (S 1024 0) (S 1007 0) (S 1009 0) (sm_fn (S 1032 0) (S 21) (S 1043 0)) ∧ sm_FT (S 11) (S 12) (S 13) (S 1100019) (S 17) (S 18) (S 21) (S 19) (S 20) (S 22) (S 1100016) (S 1024 0) (S 1007 0) (S 1009 0) (S 1032 0) (S 1032 0) ∧ sm_WG (S 1100001) (S 1100019) (S 1043 0) ∧ (S 1100016 (S 1043 0)) = 0 ∧ sm_RG (S 11) (S 12) (S 13) (S 1100035) (S 1024 0)) ∧ -1 ≤ (S 1100036 0) ∧ (S 1100036 0) < (S 1024 0) ∧ sm_HD (S 23) (S 24) (S 1100018 0) (S 1007 0) ∧ sm_HD (S 25) (fun _ : Int => (S 1042 0)) 1 (S 1007 0) ∧ 0 ≤ (S 1043 0) ∧ (S 1043 0) < (S 1100018 0) ∧ (S 1100018 0) = (S 1032 0) ∧ (S 1032 0) ≤ 1 + (S 1020 0) ∧ 0 ≤ (S 1031 0) ∧ (S 1031 0) ≤ 100 ∧ 0 ≤ (S 1044 0) ∧ (S 1044 0) ≤ 30 ∧ 0 ≤ (S 1045 0) ∧ (S 1045 0) ≤ 30 ∧ 0 ≤ (S 1024 0) ∧ ((S 1021 0) = 0 → 0 ≤ (S 1023 0) ∧ (S 1023 0) ≤ 20 ∧ (S 1031 0) ≤ 3 * (S 1023 0) + 5 ∧ (S 1024 0) ≤ 2 * (S 1020 0) ∧ (S 1044 0) ≤ (S 1023 0) ∧ (S 1045 0) ≤ (S 1023 0)) ∧ (S 1021 0) = 0 ∧ 1 ≤ (S 1023 0) ∧ (S 1044 0) + 1 ≤ (S 1023 0) ∧ (S 1045 0) + 1 ≤ (S 1023 0) ∧ (S 1031 0) ≤ 3 * (S 1023 0) + 2 ∧ 1 ≤ (S 6 (S 1020 0)) ∧ (S 6 (S 1020 0)) ≤ 5 ∧ ((S 6 (S 1020 0)) = 2 ∧ (S 7 (S 1020 0)) = 0 → 0 < (S 1044 0) + (S 1045 0)) ∧ ((S 6 (S 1020 0)) = 2 ∧ (S 7 (S 1020 0)) = 3 → 0 < (S 1044 0))) → (30 * (20 - (S 1023 0)) + 31) = d → sv_T sm_XS sm_cs sm_L sm_sh (30 * (20 - (S 1023 0)) + 31).toNat (q_statementBody S) 68 0 (lv_args 0 [.ref 0]) [] S
def q_plain (S : sv_S) : Option Value → sv_S → Prop := fun v S' => ∃ r : Int, v = some (sv_I r) ∧ sv_R r ∧ sm_ok S' ∧ sv_mod [1020, 1021, 1022, 1023, 5, 1011, 3, 4, 1007, 1009, 11, 12, 13, 14, 1024, 15, 16, 1031, 1032, 17, 18, 19, 20, 21, 22, 23, 24, 25, 1042, 1043, 1044, 1045, 1100001, 1100002, 1100005, 1100003, 1100004, 1100018, 1100019, 1100016, 1100035, 1100036] S S' ∧ ((S 1020 0) ≤ (S' 1020 0) ∧ (S' 1020 0) < (S' 1012 0) ∧ 0 ≤ (S' 1021 0) ∧ (0 < (S 1021 0) → 0 < (S' 1021 0)) ∧ (S 1007 0) ≤ (S' 1007 0) ∧ (S' 1007 0) ≤ 90 ∧ sm_LN (S' 4) 400 (S' 1007 0) ∧ ((S 1009 0) = 1 → (S' 1009 0) = 1) ∧ ((S' 1021 0) = 0 → sm_WF (S' 11) (S' 12) (S' 13) (S' 1100001) (S' 1100002) (S' 1100005) (S' 1100003) (S' 1100004) (S' 1024 0) (S' 1007 0) (S' 1009 0) (sm_fn (S' 1032 0) (S' 21) (S' 1043 0)) ∧ sm_PX (S 11) (S 12) (S 13) (S 1100001) (S 1100002) (S 1100005) (S 1100003) (S 1100004) (S' 11) (S' 12) (S' 13) (S' 1100001) (S' 1100002) (S' 1100005) (S' 1100003) (S' 1100004) (S 1024 0) ∧ sm_FT (S' 11) (S' 12) (S' 13) (S' 1100019) (S' 17) (S' 18) (S' 21) (S' 19) (S' 20) (S' 22) (S' 1100016) (S' 1024 0) (S' 1007 0) (S' 1009 0) (S' 1032 0) (S' 1032 0) ∧ sm_WG (S' 1100001) (S' 1100019) (S' 1043 0) ∧ sm_F1 (S 1100019) (S' 1100019) (S 1024 0) ∧ sm_F1 (S 1100035) (S' 1100035) (S 1024 0) ∧ sm_F1 (S 17) (S' 17) (S 1032 0) ∧ sm_F1 (S 18) (S' 18) (S 1032 0) ∧ sm_F1 (S 21) (S' 21) (S 1032 0) ∧ sm_F1 (S 20) (S' 20) (S 1032 0) ∧ sm_F1 (S 22) (S' 22) (S 1032 0) ∧ sm_F1 (S 1100016) (S' 1100016) (S 1032 0) ∧ sm_F1 (S 19) (S' 19) (8 * (S 1032 0)) ∧ sm_FN (S' 1100016) (S 1032 0) (S' 1032 0) ∧ sm_RG (S' 11) (S' 12) (S' 13) (S' 1100035) (S' 1024 0)) ∧ (S' 1100036 0) = (S 1100036 0) ∧ sm_KL (S 15) (S 16) (S' 15) (S' 16) (S 1031 0) ∧ sm_HD (S' 23) (S' 24) (S' 1100018 0) (S' 1007 0) ∧ sm_HD (S' 25) (fun _ : Int => (S' 1042 0)) 1 (S' 1007 0) ∧ (S' 1031 0) = (S 1031 0) ∧ (S' 1043 0) = (S 1043 0) ∧ (S' 1044 0) = (S 1044 0) ∧ (S' 1045 0) = (S 1045 0) ∧ (S 1032 0) ≤ (S' 1032 0) ∧ (S' 1032 0) ≤ 1 + (S' 1020 0) ∧ (S' 1100018 0) = (S' 1032 0) ∧ (S 1024 0) ≤ (S' 1024 0) ∧ ((S' 1021 0) = 0 → (S' 1023 0) = (S 1023 0) ∧ (S' 1024 0) + 0 ≤ (S 1024 0) + 2 * ((S' 1020 0) - (S 1020 0))) ∧ (0 < (S' 1021 0) → (S' 1024 0) ≤ (S 1024 0) + 2 * ((S' 1020 0) - (S 1020 0)) + 2 * (30 * (20 - (S 1023 0)) + 28)) ∧ -1 ≤ r ∧ r < 12000 ∧ ((S' 1021 0) = 0 → (S 1020 0) < (S' 1020 0) ∧ (S 1024 0) ≤ r ∧ sm_sx (S' 1100001) (S' 1100002) (S' 1100005) (S' 1100003) (S' 1100004) (S' 1024 0) 2 r (17 * (21 - (S 1023 0)) + 5) (21 - (S 1023 0)) (if 0 < (S 1044 0) then 1 else 0) (if 0 < (S 1044 0) + (S 1045 0) then 1 else 0) ∧ (S' 1100002 r) = (17 * (21 - (S 1023 0)) + 5) ∧ (S' 1100005 r) = (21 - (S 1023 0)) ∧ (S' 1100003 r) = (if 0 < (S 1044 0) then 1 else 0) ∧ (S' 1100004 r) = (if 0 < (S 1044 0) + (S 1045 0) then 1 else 0) ∧ 0 ≤ r ∧ r < (S' 1024 0) ∧ (S' 1100035 r) = (S' 1100036 0)))
def T_plain (d : Int) : Prop := ∀ (S : sv_S), sm_ok S → (0 ≤ (S 1020 0) ∧ (S 1020 0) < (S 1012 0) ∧ sm_TK (S 6) (S 8) (S 9) (S 10) (S 1012 0) ∧ 0 ≤ (S 1021 0) ∧ 0 ≤ (S 1004 0) ∧ (S 1004 0) ≤ 4000 ∧ 1 ≤ (S 1007 0) ∧ (S 1007 0) ≤ 90 ∧ sm_LN (S 4) 400 (S 1007 0) ∧ ((S 1021 0) = 0 → sm_WF (S 11) (S 12) (S 13) (S 1100001) (S 1100002) (S 1100005) (S 1100003) (S 1100004) (S 1024 0) (S 1007 0) (S 1009 0) (sm_fn (S 1032 0) (S 21) (S 1043 0)) ∧ sm_FT (S 11) (S 12) (S 13) (S 1100019) (S 17) (S 18) (S 21) (S 19) (S 20) (S 22) (S 1100016) (S 1024 0) (S 1007 0) (S 1009 0) (S 1032 0) (S 1032 0) ∧ sm_WG (S 1100001) (S 1100019) (S 1043 0) ∧ (S 1100016 (S 1043 0)) = 0 ∧ sm_RG (S 11) (S 12) (S 13) (S 1100035) (S 1024 0)) ∧ -1 ≤ (S 1100036 0) ∧ (S 1100036 0) < (S 1024 0) ∧ sm_HD (S 23) (S 24) (S 1100018 0) (S 1007 0) ∧ sm_HD (S 25) (fun _ : Int => (S 1042 0)) 1 (S 1007 0) ∧ 0 ≤ (S 1043 0) ∧ (S 1043 0) < (S 1100018 0) ∧ (S 1100018 0) = (S 1032 0) ∧ (S 1032 0) ≤ 1 + (S 1020 0) ∧ 0 ≤ (S 1031 0) ∧ (S 1031 0) ≤ 100 ∧ 0 ≤ (S 1044 0) ∧ (S 1044 0) ≤ 30 ∧ 0 ≤ (S 1045 0) ∧ (S 1045 0) ≤ 30 ∧ 0 ≤ (S 1024 0) ∧ ((S 1021 0) = 0 → 0 ≤ (S 1023 0) ∧ (S 1023 0) ≤ 20 ∧ (S 1031 0) ≤ 3 * (S 1023 0) + 5 ∧ (S 1024 0) ≤ 2 * (S 1020 0) ∧ (S 1044 0) ≤ (S 1023 0) ∧ (S 1045 0) ≤ (S 1023 0)) ∧ (S 1021 0) = 0 ∧ 1 ≤ (S 1023 0)) → (30 * (20 - (S 1023 0)) + 28) = d → sv_T sm_XS sm_cs sm_L sm_sh (30 * (20 - (S 1023 0)) + 28).toNat (q_plain S) 69 0 (lv_args 0 [.ref 0]) [] S
def q_block (S : sv_S) : Option Value → sv_S → Prop := fun v S' => ∃ r : Int, v = some (sv_I r) ∧ sv_R r ∧ sm_ok S' ∧ sv_mod [1020, 1021, 1022, 1023, 5, 1011, 3, 4, 1007, 1009, 11, 12, 13, 14, 1024, 15, 16, 1031, 1032, 17, 18, 19, 20, 21, 22, 23, 24, 25, 1042, 1043, 1044, 1045, 1100001, 1100002, 1100005, 1100003, 1100004, 1100018, 1100019, 1100016, 1100035, 1100036] S S' ∧ ((S 1020 0) ≤ (S' 1020 0) ∧ (S' 1020 0) < (S' 1012 0) ∧ 0 ≤ (S' 1021 0) ∧ (0 < (S 1021 0) → 0 < (S' 1021 0)) ∧ (S 1007 0) ≤ (S' 1007 0) ∧ (S' 1007 0) ≤ 90 ∧ sm_LN (S' 4) 400 (S' 1007 0) ∧ ((S 1009 0) = 1 → (S' 1009 0) = 1) ∧ ((S' 1021 0) = 0 → sm_WF (S' 11) (S' 12) (S' 13) (S' 1100001) (S' 1100002) (S' 1100005) (S' 1100003) (S' 1100004) (S' 1024 0) (S' 1007 0) (S' 1009 0) (sm_fn (S' 1032 0) (S' 21) (S' 1043 0)) ∧ sm_PX (S 11) (S 12) (S 13) (S 1100001) (S 1100002) (S 1100005) (S 1100003) (S 1100004) (S' 11) (S' 12) (S' 13) (S' 1100001) (S' 1100002) (S' 1100005) (S' 1100003) (S' 1100004) (S 1024 0) ∧ sm_FT (S' 11) (S' 12) (S' 13) (S' 1100019) (S' 17) (S' 18) (S' 21) (S' 19) (S' 20) (S' 22) (S' 1100016) (S' 1024 0) (S' 1007 0) (S' 1009 0) (S' 1032 0) (S' 1032 0) ∧ sm_WG (S' 1100001) (S' 1100019) (S' 1043 0) ∧ sm_F1 (S 1100019) (S' 1100019) (S 1024 0) ∧ sm_F1 (S 1100035) (S' 1100035) (S 1024 0) ∧ sm_F1 (S 17) (S' 17) (S 1032 0) ∧ sm_F1 (S 18) (S' 18) (S 1032 0) ∧ sm_F1 (S 21) (S' 21) (S 1032 0) ∧ sm_F1 (S 20) (S' 20) (S 1032 0) ∧ sm_F1 (S 22) (S' 22) (S 1032 0) ∧ sm_F1 (S 1100016) (S' 1100016) (S 1032 0) ∧ sm_F1 (S 19) (S' 19) (8 * (S 1032 0)) ∧ sm_FN (S' 1100016) (S 1032 0) (S' 1032 0) ∧ sm_RG (S' 11) (S' 12) (S' 13) (S' 1100035) (S' 1024 0)) ∧ (S' 1100036 0) = (S 1100036 0) ∧ sm_KL (S 15) (S 16) (S' 15) (S' 16) (S 1031 0) ∧ sm_HD (S' 23) (S' 24) (S' 1100018 0) (S' 1007 0) ∧ sm_HD (S' 25) (fun _ : Int => (S' 1042 0)) 1 (S' 1007 0) ∧ (S' 1031 0) = (S 1031 0) ∧ (S' 1043 0) = (S 1043 0) ∧ (S' 1044 0) = (S 1044 0) ∧ (S' 1045 0) = (S 1045 0) ∧ (S 1032 0) ≤ (S' 1032 0) ∧ (S' 1032 0) ≤ 1 + (S' 1020 0) ∧ (S' 1100018 0) = (S' 1032 0) ∧ (S 1024 0) ≤ (S' 1024 0) ∧ ((S' 1021 0) = 0 → (S' 1023 0) = (S 1023 0) ∧ (S' 1024 0) + 2 ≤ (S 1024 0) + 2 * ((S' 1020 0) - (S 1020 0))) ∧ (0 < (S' 1021 0) → (S' 1024 0) ≤ (S 1024 0) + 2 * ((S' 1020 0) - (S 1020 0)) + 2 * ((if 0 < (S 1021 0) then 4 else 30 * (20 - (S 1023 0)) + 28))) ∧ -1 ≤ r ∧ r < 12000 ∧ ((S' 1021 0) = 0 → (S 1020 0) < (S' 1020 0) ∧ sm_sl (S' 1100001) (S' 1100002) (S' 1100005) (S' 1100003) (S' 1100004) (S' 1024 0) 2 r (17 * (20 - (S 1023 0)) + 5) (20 - (S 1023 0)) (if 0 < (S 1044 0) then 1 else 0) (if 0 < (S 1044 0) + (S 1045 0) then 1 else 0) ∧ (r = -1 ∨ (0 ≤ r ∧ r < (S' 1024 0) ∧ (S' 1100035 r) = (S' 1100036 0)))))
def T_block (d : Int) : Prop := ∀ (S : sv_S), sm_ok S → (0 ≤ (S 1020 0) ∧ (S 1020 0) < (S 1012 0) ∧ sm_TK (S 6) (S 8) (S 9) (S 10) (S 1012 0) ∧ 0 ≤ (S 1021 0) ∧ 0 ≤ (S 1004 0) ∧ (S 1004 0) ≤ 4000 ∧ 1 ≤ (S 1007 0) ∧ (S 1007 0) ≤ 90 ∧ sm_LN (S 4) 400 (S 1007 0) ∧ ((S 1021 0) = 0 → sm_WF (S 11) (S 12) (S 13) (S 1100001) (S 1100002) (S 1100005) (S 1100003) (S 1100004) (S 1024 0) (S 1007 0) (S 1009 0) (sm_fn (S 1032 0) (S 21) (S 1043 0)) ∧ sm_FT (S 11) (S 12) (S 13) (S 1100019) (S 17) (S 18) (S 21) (S 19) (S 20) (S 22) (S 1100016) (S 1024 0) (S 1007 0) (S 1009 0) (S 1032 0) (S 1032 0) ∧ sm_WG (S 1100001) (S 1100019) (S 1043 0) ∧ (S 1100016 (S 1043 0)) = 0 ∧ sm_RG (S 11) (S 12) (S 13) (S 1100035) (S 1024 0)) ∧ -1 ≤ (S 1100036 0) ∧ (S 1100036 0) < (S 1024 0) ∧ sm_HD (S 23) (S 24) (S 1100018 0) (S 1007 0) ∧ sm_HD (S 25) (fun _ : Int => (S 1042 0)) 1 (S 1007 0) ∧ 0 ≤ (S 1043 0) ∧ (S 1043 0) < (S 1100018 0) ∧ (S 1100018 0) = (S 1032 0) ∧ (S 1032 0) ≤ 1 + (S 1020 0) ∧ 0 ≤ (S 1031 0) ∧ (S 1031 0) ≤ 100 ∧ 0 ≤ (S 1044 0) ∧ (S 1044 0) ≤ 30 ∧ 0 ≤ (S 1045 0) ∧ (S 1045 0) ≤ 30 ∧ 0 ≤ (S 1024 0) ∧ ((S 1021 0) = 0 → 0 ≤ (S 1023 0) ∧ (S 1023 0) ≤ 20 ∧ (S 1031 0) ≤ 3 * (S 1023 0) + 5 ∧ (S 1024 0) ≤ 2 * (S 1020 0) ∧ (S 1044 0) ≤ (S 1023 0) ∧ (S 1045 0) ≤ (S 1023 0)) ∧ (S 1031 0) ≤ 99 ∧ ((S 1021 0) = 0 → (S 1031 0) + 1 ≤ 3 * (S 1023 0) + 5)) → ((if 0 < (S 1021 0) then 4 else 30 * (20 - (S 1023 0)) + 28)) = d → sv_T sm_XS sm_cs sm_L sm_sh ((if 0 < (S 1021 0) then 4 else 30 * (20 - (S 1023 0)) + 28)).toNat (q_block S) 70 0 (lv_args 0 [.ref 0]) [] S
def q_declarations (p1 : Int) (S : sv_S) : Option Value → sv_S → Prop := fun v S' => ∃ r : Int, v = some (sv_I r) ∧ sv_R r ∧ sm_ok S' ∧ sv_mod [1020, 1021, 1022, 1023, 5, 1011, 3, 4, 1007, 1009, 11, 12, 13, 14, 1024, 15, 16, 1031, 1032, 17, 18, 19, 20, 21, 22, 23, 24, 25, 1042, 1043, 1044, 1045, 1100001, 1100002, 1100005, 1100003, 1100004, 1100018, 1100019, 1100016, 1100035, 1100036] S S' ∧ ((S 1020 0) ≤ (S' 1020 0) ∧ (S' 1020 0) < (S' 1012 0) ∧ 0 ≤ (S' 1021 0) ∧ (0 < (S 1021 0) → 0 < (S' 1021 0)) ∧ (S 1007 0) ≤ (S' 1007 0) ∧ (S' 1007 0) ≤ 90 ∧ sm_LN (S' 4) 400 (S' 1007 0) ∧ ((S 1009 0) = 1 → (S' 1009 0) = 1) ∧ ((S' 1021 0) = 0 → sm_WF (S' 11) (S' 12) (S' 13) (S' 1100001) (S' 1100002) (S' 1100005) (S' 1100003) (S' 1100004) (S' 1024 0) (S' 1007 0) (S' 1009 0) (sm_fn (S' 1032 0) (S' 21) (S' 1043 0)) ∧ sm_PX (S 11) (S 12) (S 13) (S 1100001) (S 1100002) (S 1100005) (S 1100003) (S 1100004) (S' 11) (S' 12) (S' 13) (S' 1100001) (S' 1100002) (S' 1100005) (S' 1100003) (S' 1100004) (S 1024 0) ∧ sm_FT (S' 11) (S' 12) (S' 13) (S' 1100019) (S' 17) (S' 18) (S' 21) (S' 19) (S' 20) (S' 22) (S' 1100016) (S' 1024 0) (S' 1007 0) (S' 1009 0) (S' 1032 0) (S' 1032 0) ∧ sm_WG (S' 1100001) (S' 1100019) (S' 1043 0) ∧ sm_F1 (S 1100019) (S' 1100019) (S 1024 0) ∧ sm_F1 (S 1100035) (S' 1100035) (S 1024 0) ∧ sm_F1 (S 17) (S' 17) (S 1032 0) ∧ sm_F1 (S 18) (S' 18) (S 1032 0) ∧ sm_F1 (S 21) (S' 21) (S 1032 0) ∧ sm_F1 (S 20) (S' 20) (S 1032 0) ∧ sm_F1 (S 22) (S' 22) (S 1032 0) ∧ sm_F1 (S 1100016) (S' 1100016) (S 1032 0) ∧ sm_F1 (S 19) (S' 19) (8 * (S 1032 0)) ∧ sm_FN (S' 1100016) (S 1032 0) (S' 1032 0) ∧ sm_RG (S' 11) (S' 12) (S' 13) (S' 1100035) (S' 1024 0)) ∧ (S' 1100036 0) = (S 1100036 0) ∧ sm_KL (S 15) (S 16) (S' 15) (S' 16) (S 1031 0) ∧ sm_HD (S' 23) (S' 24) (S' 1100018 0) (S' 1007 0) ∧ sm_HD (S' 25) (fun _ : Int => (S' 1042 0)) 1 (S' 1007 0) ∧ (S' 1031 0) = (S 1031 0) ∧ (S' 1043 0) = (S 1043 0) ∧ (S' 1044 0) = (S 1044 0) ∧ (S' 1045 0) = (S 1045 0) ∧ (S 1032 0) ≤ (S' 1032 0) ∧ (S' 1032 0) ≤ 1 + (S' 1020 0) ∧ (S' 1100018 0) = (S' 1032 0) ∧ (S 1024 0) ≤ (S' 1024 0) ∧ ((S' 1021 0) = 0 → (S' 1023 0) = (S 1023 0) ∧ (S' 1024 0) + 2 ≤ (S 1024 0) + 2 * ((S' 1020 0) - (S 1020 0))) ∧ (0 < (S' 1021 0) → (S' 1024 0) ≤ (S 1024 0) + 2 * ((S' 1020 0) - (S 1020 0)) + 2 * (30 * (20 - (S 1023 0)) + 28)) ∧ 0 ≤ r ∧ r < (S' 1024 0) ∧ (S 1024 0) ≤ r ∧ r < 12000 ∧ ((S' 1021 0) = 0 → (S 1020 0) < (S' 1020 0) ∧ (S' 1100001 r) = 0 ∧ (S' 1100035 r) = (S' 1100036 0) ∧ (S' 1100019 r) = (S' 1043 0) ∧ (S' 11 r) = 21 ∧ (S' 13 r) = -1 ∧ sm_li (S' 1100001) (S' 1100002) (S' 1100005) (S' 1024 0) 5 ((S' 12 (5 * r))) (17 * (20 - (S 1023 0))) (20 - (S 1023 0))))
def T_declarations (d : Int) : Prop := ∀ (p1 : Int) (S : sv_S), sm_ok S → (0 ≤ p1 ∧ p1 ≤ 1) → (0 ≤ (S 1020 0) ∧ (S 1020 0) < (S 1012 0) ∧ sm_TK (S 6) (S 8) (S 9) (S 10) (S 1012 0) ∧ 0 ≤ (S 1021 0) ∧ 0 ≤ (S 1004 0) ∧ (S 1004 0) ≤ 4000 ∧ 1 ≤ (S 1007 0) ∧ (S 1007 0) ≤ 90 ∧ sm_LN (S 4) 400 (S 1007 0) ∧ ((S 1021 0) = 0 → sm_WF (S 11) (S 12) (S 13) (S 1100001) (S 1100002) (S 1100005) (S 1100003) (S 1100004) (S 1024 0) (S 1007 0) (S 1009 0) (sm_fn (S 1032 0) (S 21) (S 1043 0)) ∧ sm_FT (S 11) (S 12) (S 13) (S 1100019) (S 17) (S 18) (S 21) (S 19) (S 20) (S 22) (S 1100016) (S 1024 0) (S 1007 0) (S 1009 0) (S 1032 0) (S 1032 0) ∧ sm_WG (S 1100001) (S 1100019) (S 1043 0) ∧ (S 1100016 (S 1043 0)) = 0 ∧ sm_RG (S 11) (S 12) (S 13) (S 1100035) (S 1024 0)) ∧ -1 ≤ (S 1100036 0) ∧ (S 1100036 0) < (S 1024 0) ∧ sm_HD (S 23) (S 24) (S 1100018 0) (S 1007 0) ∧ sm_HD (S 25) (fun _ : Int => (S 1042 0)) 1 (S 1007 0) ∧ 0 ≤ (S 1043 0) ∧ (S 1043 0) < (S 1100018 0) ∧ (S 1100018 0) = (S 1032 0) ∧ (S 1032 0) ≤ 1 + (S 1020 0) ∧ 0 ≤ (S 1031 0) ∧ (S 1031 0) ≤ 100 ∧ 0 ≤ (S 1044 0) ∧ (S 1044 0) ≤ 30 ∧ 0 ≤ (S 1045 0) ∧ (S 1045 0) ≤ 30 ∧ 0 ≤ (S 1024 0) ∧ ((S 1021 0) = 0 → 0 ≤ (S 1023 0) ∧ (S 1023 0) ≤ 20 ∧ (S 1031 0) ≤ 3 * (S 1023 0) + 5 ∧ (S 1024 0) ≤ 2 * (S 1020 0) ∧ (S 1044 0) ≤ (S 1023 0) ∧ (S 1045 0) ≤ (S 1023 0)) ∧ (S 1021 0) = 0 ∧ (S 1031 0) + 1 ≤ 3 * (S 1023 0) + 5 ∧ 1 ≤ (S 6 (S 1020 0)) ∧ (S 6 (S 1020 0)) ≤ 5) → (30 * (20 - (S 1023 0)) + 28) = d → sv_T sm_XS sm_cs sm_L sm_sh (30 * (20 - (S 1023 0)) + 28).toNat (q_declarations p1 S) 71 0 (lv_args 0 [.ref 0, sv_I p1]) [] S
def q_condition (S : sv_S) : Option Value → sv_S → Prop := fun v S' => ∃ r : Int, v = some (sv_I r) ∧ sv_R r ∧ sm_ok S' ∧ sv_mod [1020, 1021, 1022, 1023, 5, 1011, 3, 4, 1007, 1009, 11, 12, 13, 14, 1024, 15, 16, 1031, 1032, 17, 18, 19, 20, 21, 22, 23, 24, 25, 1042, 1043, 1044, 1045, 1100001, 1100002, 1100005, 1100003, 1100004, 1100018, 1100019, 1100016, 1100035, 1100036] S S' ∧ ((S 1020 0) ≤ (S' 1020 0) ∧ (S' 1020 0) < (S' 1012 0) ∧ 0 ≤ (S' 1021 0) ∧ (0 < (S 1021 0) → 0 < (S' 1021 0)) ∧ (S 1007 0) ≤ (S' 1007 0) ∧ (S' 1007 0) ≤ 90 ∧ sm_LN (S' 4) 400 (S' 1007 0) ∧ ((S 1009 0) = 1 → (S' 1009 0) = 1) ∧ ((S' 1021 0) = 0 → sm_WF (S' 11) (S' 12) (S' 13) (S' 1100001) (S' 1100002) (S' 1100005) (S' 1100003) (S' 1100004) (S' 1024 0) (S' 1007 0) (S' 1009 0) (sm_fn (S' 1032 0) (S' 21) (S' 1043 0)) ∧ sm_PX (S 11) (S 12) (S 13) (S 1100001) (S 1100002) (S 1100005) (S 1100003) (S 1100004) (S' 11) (S' 12) (S' 13) (S' 1100001) (S' 1100002) (S' 1100005) (S' 1100003) (S' 1100004) (S 1024 0) ∧ sm_FT (S' 11) (S' 12) (S' 13) (S' 1100019) (S' 17) (S' 18) (S' 21) (S' 19) (S' 20) (S' 22) (S' 1100016) (S' 1024 0) (S' 1007 0) (S' 1009 0) (S' 1032 0) (S' 1032 0) ∧ sm_WG (S' 1100001) (S' 1100019) (S' 1043 0) ∧ sm_F1 (S 1100019) (S' 1100019) (S 1024 0) ∧ sm_F1 (S 1100035) (S' 1100035) (S 1024 0) ∧ sm_F1 (S 17) (S' 17) (S 1032 0) ∧ sm_F1 (S 18) (S' 18) (S 1032 0) ∧ sm_F1 (S 21) (S' 21) (S 1032 0) ∧ sm_F1 (S 20) (S' 20) (S 1032 0) ∧ sm_F1 (S 22) (S' 22) (S 1032 0) ∧ sm_F1 (S 1100016) (S' 1100016) (S 1032 0) ∧ sm_F1 (S 19) (S' 19) (8 * (S 1032 0)) ∧ sm_FN (S' 1100016) (S 1032 0) (S' 1032 0) ∧ sm_RG (S' 11) (S' 12) (S' 13) (S' 1100035) (S' 1024 0)) ∧ (S' 1100036 0) = (S 1100036 0) ∧ sm_KL (S 15) (S 16) (S' 15) (S' 16) (S 1031 0) ∧ sm_HD (S' 23) (S' 24) (S' 1100018 0) (S' 1007 0) ∧ sm_HD (S' 25) (fun _ : Int => (S' 1042 0)) 1 (S' 1007 0) ∧ (S' 1031 0) = (S 1031 0) ∧ (S' 1043 0) = (S 1043 0) ∧ (S' 1044 0) = (S 1044 0) ∧ (S' 1045 0) = (S 1045 0) ∧ (S 1032 0) ≤ (S' 1032 0) ∧ (S' 1032 0) ≤ 1 + (S' 1020 0) ∧ (S' 1100018 0) = (S' 1032 0) ∧ (S 1024 0) ≤ (S' 1024 0) ∧ ((S' 1021 0) = 0 → (S' 1023 0) = (S 1023 0) ∧ (S' 1024 0) + 1 ≤ (S 1024 0) + 2 * ((S' 1020 0) - (S 1020 0))) ∧ (0 < (S' 1021 0) → (S' 1024 0) ≤ (S 1024 0) + 2 * ((S' 1020 0) - (S 1020 0)) + 2 * (30 * (20 - (S 1023 0)) + 27)) ∧ -1 ≤ r ∧ r < 12000 ∧ ((S' 1021 0) = 0 → (S 1020 0) < (S' 1020 0) ∧ sm_ex (S' 1100001) (S' 1100002) (S' 1100005) (S' 1024 0) 1 r (17 * (20 - (S 1023 0)) + 17) (20 - (S 1023 0))))
def T_condition (d : Int) : Prop := ∀ (S : sv_S), sm_ok S → (0 ≤ (S 1020 0) ∧ (S 1020 0) < (S 1012 0) ∧ sm_TK (S 6) (S 8) (S 9) (S 10) (S 1012 0) ∧ 0 ≤ (S 1021 0) ∧ 0 ≤ (S 1004 0) ∧ (S 1004 0) ≤ 4000 ∧ 1 ≤ (S 1007 0) ∧ (S 1007 0) ≤ 90 ∧ sm_LN (S 4) 400 (S 1007 0) ∧ ((S 1021 0) = 0 → sm_WF (S 11) (S 12) (S 13) (S 1100001) (S 1100002) (S 1100005) (S 1100003) (S 1100004) (S 1024 0) (S 1007 0) (S 1009 0) (sm_fn (S 1032 0) (S 21) (S 1043 0)) ∧ sm_FT (S 11) (S 12) (S 13) (S 1100019) (S 17) (S 18) (S 21) (S 19) (S 20) (S 22) (S 1100016) (S 1024 0) (S 1007 0) (S 1009 0) (S 1032 0) (S 1032 0) ∧ sm_WG (S 1100001) (S 1100019) (S 1043 0) ∧ (S 1100016 (S 1043 0)) = 0 ∧ sm_RG (S 11) (S 12) (S 13) (S 1100035) (S 1024 0)) ∧ -1 ≤ (S 1100036 0) ∧ (S 1100036 0) < (S 1024 0) ∧ sm_HD (S 23) (S 24) (S 1100018 0) (S 1007 0) ∧ sm_HD (S 25) (fun _ : Int => (S 1042 0)) 1 (S 1007 0) ∧ 0 ≤ (S 1043 0) ∧ (S 1043 0) < (S 1100018 0) ∧ (S 1100018 0) = (S 1032 0) ∧ (S 1032 0) ≤ 1 + (S 1020 0) ∧ 0 ≤ (S 1031 0) ∧ (S 1031 0) ≤ 100 ∧ 0 ≤ (S 1044 0) ∧ (S 1044 0) ≤ 30 ∧ 0 ≤ (S 1045 0) ∧ (S 1045 0) ≤ 30 ∧ 0 ≤ (S 1024 0) ∧ ((S 1021 0) = 0 → 0 ≤ (S 1023 0) ∧ (S 1023 0) ≤ 20 ∧ (S 1031 0) ≤ 3 * (S 1023 0) + 5 ∧ (S 1024 0) ≤ 2 * (S 1020 0) ∧ (S 1044 0) ≤ (S 1023 0) ∧ (S 1045 0) ≤ (S 1023 0)) ∧ (S 1021 0) = 0) → (30 * (20 - (S 1023 0)) + 27) = d → sv_T sm_XS sm_cs sm_L sm_sh (30 * (20 - (S 1023 0)) + 27).toNat (q_condition S) 72 0 (lv_args 0 [.ref 0]) [] S
def q_looped (S : sv_S) : Option Value → sv_S → Prop := fun v S' => ∃ r : Int, v = some (sv_I r) ∧ sv_R r ∧ sm_ok S' ∧ sv_mod [1020, 1021, 1022, 1023, 5, 1011, 3, 4, 1007, 1009, 11, 12, 13, 14, 1024, 15, 16, 1031, 1032, 17, 18, 19, 20, 21, 22, 23, 24, 25, 1042, 1043, 1044, 1045, 1100001, 1100002, 1100005, 1100003, 1100004, 1100018, 1100019, 1100016, 1100035, 1100036] S S' ∧ ((S 1020 0) ≤ (S' 1020 0) ∧ (S' 1020 0) < (S' 1012 0) ∧ 0 ≤ (S' 1021 0) ∧ (0 < (S 1021 0) → 0 < (S' 1021 0)) ∧ (S 1007 0) ≤ (S' 1007 0) ∧ (S' 1007 0) ≤ 90 ∧ sm_LN (S' 4) 400 (S' 1007 0) ∧ ((S 1009 0) = 1 → (S' 1009 0) = 1) ∧ ((S' 1021 0) = 0 → sm_WF (S' 11) (S' 12) (S' 13) (S' 1100001) (S' 1100002) (S' 1100005) (S' 1100003) (S' 1100004) (S' 1024 0) (S' 1007 0) (S' 1009 0) (sm_fn (S' 1032 0) (S' 21) (S' 1043 0)) ∧ sm_PX (S 11) (S 12) (S 13) (S 1100001) (S 1100002) (S 1100005) (S 1100003) (S 1100004) (S' 11) (S' 12) (S' 13) (S' 1100001) (S' 1100002) (S' 1100005) (S' 1100003) (S' 1100004) (S 1024 0) ∧ sm_FT (S' 11) (S' 12) (S' 13) (S' 1100019) (S' 17) (S' 18) (S' 21) (S' 19) (S' 20) (S' 22) (S' 1100016) (S' 1024 0) (S' 1007 0) (S' 1009 0) (S' 1032 0) (S' 1032 0) ∧ sm_WG (S' 1100001) (S' 1100019) (S' 1043 0) ∧ sm_F1 (S 1100019) (S' 1100019) (S 1024 0) ∧ sm_F1 (S 1100035) (S' 1100035) (S 1024 0) ∧ sm_F1 (S 17) (S' 17) (S 1032 0) ∧ sm_F1 (S 18) (S' 18) (S 1032 0) ∧ sm_F1 (S 21) (S' 21) (S 1032 0) ∧ sm_F1 (S 20) (S' 20) (S 1032 0) ∧ sm_F1 (S 22) (S' 22) (S 1032 0) ∧ sm_F1 (S 1100016) (S' 1100016) (S 1032 0) ∧ sm_F1 (S 19) (S' 19) (8 * (S 1032 0)) ∧ sm_FN (S' 1100016) (S 1032 0) (S' 1032 0) ∧ sm_RG (S' 11) (S' 12) (S' 13) (S' 1100035) (S' 1024 0)) ∧ (S' 1100036 0) = (S 1100036 0) ∧ sm_KL (S 15) (S 16) (S' 15) (S' 16) (S 1031 0) ∧ sm_HD (S' 23) (S' 24) (S' 1100018 0) (S' 1007 0) ∧ sm_HD (S' 25) (fun _ : Int => (S' 1042 0)) 1 (S' 1007 0) ∧ (S' 1031 0) = (S 1031 0) ∧ (S' 1043 0) = (S 1043 0) ∧ (S' 1044 0) = (S 1044 0) ∧ (S' 1045 0) = (S 1045 0) ∧ (S 1032 0) ≤ (S' 1032 0) ∧ (S' 1032 0) ≤ 1 + (S' 1020 0) ∧ (S' 1100018 0) = (S' 1032 0) ∧ (S 1024 0) ≤ (S' 1024 0) ∧ ((S' 1021 0) = 0 → (S' 1023 0) = (S 1023 0) ∧ (S' 1024 0) + 0 ≤ (S 1024 0) + 2 * ((S' 1020 0) - (S 1020 0))) ∧ (0 < (S' 1021 0) → (S' 1024 0) ≤ (S 1024 0) + 2 * ((S' 1020 0) - (S 1020 0)) + 2 * ((if 0 < (S 1021 0) then 3 else 30 * (20 - (S 1023 0)) + 28))) ∧ -1 ≤ r ∧ r < 12000 ∧ ((S' 1021 0) = 0 → (S 1020 0) < (S' 1020 0) ∧ sm_sx (S' 1100001) (S' 1100002) (S' 1100005) (S' 1100003) (S' 1100004) (S' 1024 0) 2 r (17 * (20 - (S 1023 0)) + 5) (20 - (S 1023 0)) 1 1 ∧ 0 ≤ r ∧ r < (S' 1024 0) ∧ (S' 1100035 r) = (S' 1100036 0)) ∧ (0 < (S 1021 0) → (S' 1020 0) = (S 1020 0) ∧ (S' 1024 0) = (S 1024 0)))
def T_looped (d : Int) : Prop := ∀ (S : sv_S), sm_ok S → (0 ≤ (S 1020 0) ∧ (S 1020 0) < (S 1012 0) ∧ sm_TK (S 6) (S 8) (S 9) (S 10) (S 1012 0) ∧ 0 ≤ (S 1021 0) ∧ 0 ≤ (S 1004 0) ∧ (S 1004 0) ≤ 4000 ∧ 1 ≤ (S 1007 0) ∧ (S 1007 0) ≤ 90 ∧ sm_LN (S 4) 400 (S 1007 0) ∧ ((S 1021 0) = 0 → sm_WF (S 11) (S 12) (S 13) (S 1100001) (S 1100002) (S 1100005) (S 1100003) (S 1100004) (S 1024 0) (S 1007 0) (S 1009 0) (sm_fn (S 1032 0) (S 21) (S 1043 0)) ∧ sm_FT (S 11) (S 12) (S 13) (S 1100019) (S 17) (S 18) (S 21) (S 19) (S 20) (S 22) (S 1100016) (S 1024 0) (S 1007 0) (S 1009 0) (S 1032 0) (S 1032 0) ∧ sm_WG (S 1100001) (S 1100019) (S 1043 0) ∧ (S 1100016 (S 1043 0)) = 0 ∧ sm_RG (S 11) (S 12) (S 13) (S 1100035) (S 1024 0)) ∧ -1 ≤ (S 1100036 0) ∧ (S 1100036 0) < (S 1024 0) ∧ sm_HD (S 23) (S 24) (S 1100018 0) (S 1007 0) ∧ sm_HD (S 25) (fun _ : Int => (S 1042 0)) 1 (S 1007 0) ∧ 0 ≤ (S 1043 0) ∧ (S 1043 0) < (S 1100018 0) ∧ (S 1100018 0) = (S 1032 0) ∧ (S 1032 0) ≤ 1 + (S 1020 0) ∧ 0 ≤ (S 1031 0) ∧ (S 1031 0) ≤ 100 ∧ 0 ≤ (S 1044 0) ∧ (S 1044 0) ≤ 30 ∧ 0 ≤ (S 1045 0) ∧ (S 1045 0) ≤ 30 ∧ 0 ≤ (S 1024 0) ∧ ((S 1021 0) = 0 → 0 ≤ (S 1023 0) ∧ (S 1023 0) ≤ 20 ∧ (S 1031 0) ≤ 3 * (S 1023 0) + 5 ∧ (S 1024 0) ≤ 2 * (S 1020 0) ∧ (S 1044 0) ≤ (S 1023 0) ∧ (S 1045 0) ≤ (S 1023 0)) ∧ (S 1044 0) ≤ 29 ∧ ((S 1021 0) = 0 → (S 1044 0) + 1 ≤ (S 1023 0))) → ((if 0 < (S 1021 0) then 3 else 30 * (20 - (S 1023 0)) + 28)) = d → sv_T sm_XS sm_cs sm_L sm_sh ((if 0 < (S 1021 0) then 3 else 30 * (20 - (S 1023 0)) + 28)).toNat (q_looped S) 73 0 (lv_args 0 [.ref 0]) [] S
def q_whether (S : sv_S) : Option Value → sv_S → Prop := fun v S' => ∃ r : Int, v = some (sv_I r) ∧ sv_R r ∧ sm_ok S' ∧ sv_mod [1020, 1021, 1022, 1023, 5, 1011, 3, 4, 1007, 1009, 11, 12, 13, 14, 1024, 15, 16, 1031, 1032, 17, 18, 19, 20, 21, 22, 23, 24, 25, 1042, 1043, 1044, 1045, 1100001, 1100002, 1100005, 1100003, 1100004, 1100018, 1100019, 1100016, 1100035, 1100036] S S' ∧ ((S 1020 0) ≤ (S' 1020 0) ∧ (S' 1020 0) < (S' 1012 0) ∧ 0 ≤ (S' 1021 0) ∧ (0 < (S 1021 0) → 0 < (S' 1021 0)) ∧ (S 1007 0) ≤ (S' 1007 0) ∧ (S' 1007 0) ≤ 90 ∧ sm_LN (S' 4) 400 (S' 1007 0) ∧ ((S 1009 0) = 1 → (S' 1009 0) = 1) ∧ ((S' 1021 0) = 0 → sm_WF (S' 11) (S' 12) (S' 13) (S' 1100001) (S' 1100002) (S' 1100005) (S' 1100003) (S' 1100004) (S' 1024 0) (S' 1007 0) (S' 1009 0) (sm_fn (S' 1032 0) (S' 21) (S' 1043 0)) ∧ sm_PX (S 11) (S 12) (S 13) (S 1100001) (S 1100002) (S 1100005) (S 1100003) (S 1100004) (S' 11) (S' 12) (S' 13) (S' 1100001) (S' 1100002) (S' 1100005) (S' 1100003) (S' 1100004) (S 1024 0) ∧ sm_FT (S' 11) (S' 12) (S' 13) (S' 1100019) (S' 17) (S' 18) (S' 21) (S' 19) (S' 20) (S' 22) (S' 1100016) (S' 1024 0) (S' 1007 0) (S' 1009 0) (S' 1032 0) (S' 1032 0) ∧ sm_WG (S' 1100001) (S' 1100019) (S' 1043 0) ∧ sm_F1 (S 1100019) (S' 1100019) (S 1024 0) ∧ sm_F1 (S 1100035) (S' 1100035) (S 1024 0) ∧ sm_F1 (S 17) (S' 17) (S 1032 0) ∧ sm_F1 (S 18) (S' 18) (S 1032 0) ∧ sm_F1 (S 21) (S' 21) (S 1032 0) ∧ sm_F1 (S 20) (S' 20) (S 1032 0) ∧ sm_F1 (S 22) (S' 22) (S 1032 0) ∧ sm_F1 (S 1100016) (S' 1100016) (S 1032 0) ∧ sm_F1 (S 19) (S' 19) (8 * (S 1032 0)) ∧ sm_FN (S' 1100016) (S 1032 0) (S' 1032 0) ∧ sm_RG (S' 11) (S' 12) (S' 13) (S' 1100035) (S' 1024 0)) ∧ (S' 1100036 0) = (S 1100036 0) ∧ sm_KL (S 15) (S 16) (S' 15) (S' 16) (S 1031 0) ∧ sm_HD (S' 23) (S' 24) (S' 1100018 0) (S' 1007 0) ∧ sm_HD (S' 25) (fun _ : Int => (S' 1042 0)) 1 (S' 1007 0) ∧ (S' 1031 0) = (S 1031 0) ∧ (S' 1043 0) = (S 1043 0) ∧ (S' 1044 0) = (S 1044 0) ∧ (S' 1045 0) = (S 1045 0) ∧ (S 1032 0) ≤ (S' 1032 0) ∧ (S' 1032 0) ≤ 1 + (S' 1020 0) ∧ (S' 1100018 0) = (S' 1032 0) ∧ (S 1024 0) ≤ (S' 1024 0) ∧ ((S' 1021 0) = 0 → (S' 1023 0) = (S 1023 0) ∧ (S' 1024 0) + 0 ≤ (S 1024 0) + 2 * ((S' 1020 0) - (S 1020 0))) ∧ (0 < (S' 1021 0) → (S' 1024 0) ≤ (S 1024 0) + 2 * ((S' 1020 0) - (S 1020 0)) + 2 * (30 * (20 - (S 1023 0)) + 29)) ∧ -1 ≤ r ∧ r < 12000 ∧ ((S' 1021 0) = 0 → (S 1020 0) < (S' 1020 0) ∧ (S 1024 0) ≤ r ∧ sm_sx (S' 1100001) (S' 1100002) (S' 1100005) (S' 1100003) (S' 1100004) (S' 1024 0) 2 r (17 * (21 - (S 1023 0)) + 5) (21 - (S 1023 0)) (if 0 < (S 1044 0) then 1 else 0) (if 0 < (S 1044 0) + (S 1045 0) then 1 else 0) ∧ (S' 1100002 r) = (17 * (21 - (S 1023 0)) + 5) ∧ (S' 1100005 r) = (21 - (S 1023 0)) ∧ (S' 1100003 r) = (if 0 < (S 1044 0) then 1 else 0) ∧ (S' 1100004 r) = (if 0 < (S 1044 0) + (S 1045 0) then 1 else 0) ∧ 0 ≤ r ∧ r < (S' 1024 0) ∧ (S' 1100035 r) = (S' 1100036 0)))
def T_whether (d : Int) : Prop := ∀ (S : sv_S), sm_ok S → (0 ≤ (S 1020 0) ∧ (S 1020 0) < (S 1012 0) ∧ sm_TK (S 6) (S 8) (S 9) (S 10) (S 1012 0) ∧ 0 ≤ (S 1021 0) ∧ 0 ≤ (S 1004 0) ∧ (S 1004 0) ≤ 4000 ∧ 1 ≤ (S 1007 0) ∧ (S 1007 0) ≤ 90 ∧ sm_LN (S 4) 400 (S 1007 0) ∧ ((S 1021 0) = 0 → sm_WF (S 11) (S 12) (S 13) (S 1100001) (S 1100002) (S 1100005) (S 1100003) (S 1100004) (S 1024 0) (S 1007 0) (S 1009 0) (sm_fn (S 1032 0) (S 21) (S 1043 0)) ∧ sm_FT (S 11) (S 12) (S 13) (S 1100019) (S 17) (S 18) (S 21) (S 19) (S 20) (S 22) (S 1100016) (S 1024 0) (S 1007 0) (S 1009 0) (S 1032 0) (S 1032 0) ∧ sm_WG (S 1100001) (S 1100019) (S 1043 0) ∧ (S 1100016 (S 1043 0)) = 0 ∧ sm_RG (S 11) (S 12) (S 13) (S 1100035) (S 1024 0)) ∧ -1 ≤ (S 1100036 0) ∧ (S 1100036 0) < (S 1024 0) ∧ sm_HD (S 23) (S 24) (S 1100018 0) (S 1007 0) ∧ sm_HD (S 25) (fun _ : Int => (S 1042 0)) 1 (S 1007 0) ∧ 0 ≤ (S 1043 0) ∧ (S 1043 0) < (S 1100018 0) ∧ (S 1100018 0) = (S 1032 0) ∧ (S 1032 0) ≤ 1 + (S 1020 0) ∧ 0 ≤ (S 1031 0) ∧ (S 1031 0) ≤ 100 ∧ 0 ≤ (S 1044 0) ∧ (S 1044 0) ≤ 30 ∧ 0 ≤ (S 1045 0) ∧ (S 1045 0) ≤ 30 ∧ 0 ≤ (S 1024 0) ∧ ((S 1021 0) = 0 → 0 ≤ (S 1023 0) ∧ (S 1023 0) ≤ 20 ∧ (S 1031 0) ≤ 3 * (S 1023 0) + 5 ∧ (S 1024 0) ≤ 2 * (S 1020 0) ∧ (S 1044 0) ≤ (S 1023 0) ∧ (S 1045 0) ≤ (S 1023 0)) ∧ (S 1021 0) = 0 ∧ 1 ≤ (S 1023 0) ∧ (S 1044 0) + 1 ≤ (S 1023 0) ∧ (S 1045 0) + 1 ≤ (S 1023 0) ∧ (S 1031 0) ≤ 3 * (S 1023 0) + 2 ∧ 1 ≤ (S 6 (S 1020 0)) ∧ (S 6 (S 1020 0)) ≤ 5) → (30 * (20 - (S 1023 0)) + 29) = d → sv_T sm_XS sm_cs sm_L sm_sh (30 * (20 - (S 1023 0)) + 29).toNat (q_whether S) 74 0 (lv_args 0 [.ref 0]) [] S
def q_until (S : sv_S) : Option Value → sv_S → Prop := fun v S' => ∃ r : Int, v = some (sv_I r) ∧ sv_R r ∧ sm_ok S' ∧ sv_mod [1020, 1021, 1022, 1023, 5, 1011, 3, 4, 1007, 1009, 11, 12, 13, 14, 1024, 15, 16, 1031, 1032, 17, 18, 19, 20, 21, 22, 23, 24, 25, 1042, 1043, 1044, 1045, 1100001, 1100002, 1100005, 1100003, 1100004, 1100018, 1100019, 1100016, 1100035, 1100036] S S' ∧ ((S 1020 0) ≤ (S' 1020 0) ∧ (S' 1020 0) < (S' 1012 0) ∧ 0 ≤ (S' 1021 0) ∧ (0 < (S 1021 0) → 0 < (S' 1021 0)) ∧ (S 1007 0) ≤ (S' 1007 0) ∧ (S' 1007 0) ≤ 90 ∧ sm_LN (S' 4) 400 (S' 1007 0) ∧ ((S 1009 0) = 1 → (S' 1009 0) = 1) ∧ ((S' 1021 0) = 0 → sm_WF (S' 11) (S' 12) (S' 13) (S' 1100001) (S' 1100002) (S' 1100005) (S' 1100003) (S' 1100004) (S' 1024 0) (S' 1007 0) (S' 1009 0) (sm_fn (S' 1032 0) (S' 21) (S' 1043 0)) ∧ sm_PX (S 11) (S 12) (S 13) (S 1100001) (S 1100002) (S 1100005) (S 1100003) (S 1100004) (S' 11) (S' 12) (S' 13) (S' 1100001) (S' 1100002) (S' 1100005) (S' 1100003) (S' 1100004) (S 1024 0) ∧ sm_FT (S' 11) (S' 12) (S' 13) (S' 1100019) (S' 17) (S' 18) (S' 21) (S' 19) (S' 20) (S' 22) (S' 1100016) (S' 1024 0) (S' 1007 0) (S' 1009 0) (S' 1032 0) (S' 1032 0) ∧ sm_WG (S' 1100001) (S' 1100019) (S' 1043 0) ∧ sm_F1 (S 1100019) (S' 1100019) (S 1024 0) ∧ sm_F1 (S 1100035) (S' 1100035) (S 1024 0) ∧ sm_F1 (S 17) (S' 17) (S 1032 0) ∧ sm_F1 (S 18) (S' 18) (S 1032 0) ∧ sm_F1 (S 21) (S' 21) (S 1032 0) ∧ sm_F1 (S 20) (S' 20) (S 1032 0) ∧ sm_F1 (S 22) (S' 22) (S 1032 0) ∧ sm_F1 (S 1100016) (S' 1100016) (S 1032 0) ∧ sm_F1 (S 19) (S' 19) (8 * (S 1032 0)) ∧ sm_FN (S' 1100016) (S 1032 0) (S' 1032 0) ∧ sm_RG (S' 11) (S' 12) (S' 13) (S' 1100035) (S' 1024 0)) ∧ (S' 1100036 0) = (S 1100036 0) ∧ sm_KL (S 15) (S 16) (S' 15) (S' 16) (S 1031 0) ∧ sm_HD (S' 23) (S' 24) (S' 1100018 0) (S' 1007 0) ∧ sm_HD (S' 25) (fun _ : Int => (S' 1042 0)) 1 (S' 1007 0) ∧ (S' 1031 0) = (S 1031 0) ∧ (S' 1043 0) = (S 1043 0) ∧ (S' 1044 0) = (S 1044 0) ∧ (S' 1045 0) = (S 1045 0) ∧ (S 1032 0) ≤ (S' 1032 0) ∧ (S' 1032 0) ≤ 1 + (S' 1020 0) ∧ (S' 1100018 0) = (S' 1032 0) ∧ (S 1024 0) ≤ (S' 1024 0) ∧ ((S' 1021 0) = 0 → (S' 1023 0) = (S 1023 0) ∧ (S' 1024 0) + 0 ≤ (S 1024 0) + 2 * ((S' 1020 0) - (S 1020 0))) ∧ (0 < (S' 1021 0) → (S' 1024 0) ≤ (S 1024 0) + 2 * ((S' 1020 0) - (S 1020 0)) + 2 * (30 * (20 - (S 1023 0)) + 29)) ∧ -1 ≤ r ∧ r < 12000 ∧ ((S' 1021 0) = 0 → (S 1020 0) < (S' 1020 0) ∧ (S 1024 0) ≤ r ∧ sm_sx (S' 1100001) (S' 1100002) (S' 1100005) (S' 1100003) (S' 1100004) (S' 1024 0) 2 r (17 * (21 - (S 1023 0)) + 5) (21 - (S 1023 0)) (if 0 < (S 1044 0) then 1 else 0) (if 0 < (S 1044 0) + (S 1045 0) then 1 else 0) ∧ (S' 1100002 r) = (17 * (21 - (S 1023 0)) + 5) ∧ (S' 1100005 r) = (21 - (S 1023 0)) ∧ (S' 1100003 r) = (if 0 < (S 1044 0) then 1 else 0) ∧ (S' 1100004 r) = (if 0 < (S 1044 0) + (S 1045 0) then 1 else 0) ∧ 0 ≤ r ∧ r < (S' 1024 0) ∧ (S' 1100035 r) = (S' 1100036 0)))
def T_until (d : Int) : Prop := ∀ (S : sv_S), sm_ok S → (0 ≤ (S 1020 0) ∧ (S 1020 0) < (S 1012 0) ∧ sm_TK (S 6) (S 8) (S 9) (S 10) (S 1012 0) ∧ 0 ≤ (S 1021 0) ∧ 0 ≤ (S 1004 0) ∧ (S 1004 0) ≤ 4000 ∧ 1 ≤ (S 1007 0) ∧ (S 1007 0) ≤ 90 ∧ sm_LN (S 4) 400 (S 1007 0) ∧ ((S 1021 0) = 0 → sm_WF (S 11) (S 12) (S 13) (S 1100001) (S 1100002) (S 1100005) (S 1100003) (S 1100004) (S 1024 0) (S 1007 0) (S 1009 0) (sm_fn (S 1032 0) (S 21) (S 1043 0)) ∧ sm_FT (S 11) (S 12) (S 13) (S 1100019) (S 17) (S 18) (S 21) (S 19) (S 20) (S 22) (S 1100016) (S 1024 0) (S 1007 0) (S 1009 0) (S 1032 0) (S 1032 0) ∧ sm_WG (S 1100001) (S 1100019) (S 1043 0) ∧ (S 1100016 (S 1043 0)) = 0 ∧ sm_RG (S 11) (S 12) (S 13) (S 1100035) (S 1024 0)) ∧ -1 ≤ (S 1100036 0) ∧ (S 1100036 0) < (S 1024 0) ∧ sm_HD (S 23) (S 24) (S 1100018 0) (S 1007 0) ∧ sm_HD (S 25) (fun _ : Int => (S 1042 0)) 1 (S 1007 0) ∧ 0 ≤ (S 1043 0) ∧ (S 1043 0) < (S 1100018 0) ∧ (S 1100018 0) = (S 1032 0) ∧ (S 1032 0) ≤ 1 + (S 1020 0) ∧ 0 ≤ (S 1031 0) ∧ (S 1031 0) ≤ 100 ∧ 0 ≤ (S 1044 0) ∧ (S 1044 0) ≤ 30 ∧ 0 ≤ (S 1045 0) ∧ (S 1045 0) ≤ 30 ∧ 0 ≤ (S 1024 0) ∧ ((S 1021 0) = 0 → 0 ≤ (S 1023 0) ∧ (S 1023 0) ≤ 20 ∧ (S 1031 0) ≤ 3 * (S 1023 0) + 5 ∧ (S 1024 0) ≤ 2 * (S 1020 0) ∧ (S 1044 0) ≤ (S 1023 0) ∧ (S 1045 0) ≤ (S 1023 0)) ∧ (S 1021 0) = 0 ∧ 1 ≤ (S 1023 0) ∧ (S 1044 0) + 1 ≤ (S 1023 0) ∧ (S 1045 0) + 1 ≤ (S 1023 0) ∧ (S 1031 0) ≤ 3 * (S 1023 0) + 2 ∧ 1 ≤ (S 6 (S 1020 0)) ∧ (S 6 (S 1020 0)) ≤ 5) → (30 * (20 - (S 1023 0)) + 29) = d → sv_T sm_XS sm_cs sm_L sm_sh (30 * (20 - (S 1023 0)) + 29).toNat (q_until S) 75 0 (lv_args 0 [.ref 0]) [] S
def q_counted (S : sv_S) : Option Value → sv_S → Prop := fun v S' => ∃ r : Int, v = some (sv_I r) ∧ sv_R r ∧ sm_ok S' ∧ sv_mod [1020, 1021, 1022, 1023, 5, 1011, 3, 4, 1007, 1009, 11, 12, 13, 14, 1024, 15, 16, 1031, 1032, 17, 18, 19, 20, 21, 22, 23, 24, 25, 1042, 1043, 1044, 1045, 1100001, 1100002, 1100005, 1100003, 1100004, 1100018, 1100019, 1100016, 1100035, 1100036] S S' ∧ ((S 1020 0) ≤ (S' 1020 0) ∧ (S' 1020 0) < (S' 1012 0) ∧ 0 ≤ (S' 1021 0) ∧ (0 < (S 1021 0) → 0 < (S' 1021 0)) ∧ (S 1007 0) ≤ (S' 1007 0) ∧ (S' 1007 0) ≤ 90 ∧ sm_LN (S' 4) 400 (S' 1007 0) ∧ ((S 1009 0) = 1 → (S' 1009 0) = 1) ∧ ((S' 1021 0) = 0 → sm_WF (S' 11) (S' 12) (S' 13) (S' 1100001) (S' 1100002) (S' 1100005) (S' 1100003) (S' 1100004) (S' 1024 0) (S' 1007 0) (S' 1009 0) (sm_fn (S' 1032 0) (S' 21) (S' 1043 0)) ∧ sm_PX (S 11) (S 12) (S 13) (S 1100001) (S 1100002) (S 1100005) (S 1100003) (S 1100004) (S' 11) (S' 12) (S' 13) (S' 1100001) (S' 1100002) (S' 1100005) (S' 1100003) (S' 1100004) (S 1024 0) ∧ sm_FT (S' 11) (S' 12) (S' 13) (S' 1100019) (S' 17) (S' 18) (S' 21) (S' 19) (S' 20) (S' 22) (S' 1100016) (S' 1024 0) (S' 1007 0) (S' 1009 0) (S' 1032 0) (S' 1032 0) ∧ sm_WG (S' 1100001) (S' 1100019) (S' 1043 0) ∧ sm_F1 (S 1100019) (S' 1100019) (S 1024 0) ∧ sm_F1 (S 1100035) (S' 1100035) (S 1024 0) ∧ sm_F1 (S 17) (S' 17) (S 1032 0) ∧ sm_F1 (S 18) (S' 18) (S 1032 0) ∧ sm_F1 (S 21) (S' 21) (S 1032 0) ∧ sm_F1 (S 20) (S' 20) (S 1032 0) ∧ sm_F1 (S 22) (S' 22) (S 1032 0) ∧ sm_F1 (S 1100016) (S' 1100016) (S 1032 0) ∧ sm_F1 (S 19) (S' 19) (8 * (S 1032 0)) ∧ sm_FN (S' 1100016) (S 1032 0) (S' 1032 0) ∧ sm_RG (S' 11) (S' 12) (S' 13) (S' 1100035) (S' 1024 0)) ∧ (S' 1100036 0) = (S 1100036 0) ∧ sm_KL (S 15) (S 16) (S' 15) (S' 16) (S 1031 0) ∧ sm_HD (S' 23) (S' 24) (S' 1100018 0) (S' 1007 0) ∧ sm_HD (S' 25) (fun _ : Int => (S' 1042 0)) 1 (S' 1007 0) ∧ (S' 1031 0) = (S 1031 0) ∧ (S' 1043 0) = (S 1043 0) ∧ (S' 1044 0) = (S 1044 0) ∧ (S' 1045 0) = (S 1045 0) ∧ (S 1032 0) ≤ (S' 1032 0) ∧ (S' 1032 0) ≤ 1 + (S' 1020 0) ∧ (S' 1100018 0) = (S' 1032 0) ∧ (S 1024 0) ≤ (S' 1024 0) ∧ ((S' 1021 0) = 0 → (S' 1023 0) = (S 1023 0) ∧ (S' 1024 0) + 0 ≤ (S 1024 0) + 2 * ((S' 1020 0) - (S 1020 0))) ∧ (0 < (S' 1021 0) → (S' 1024 0) ≤ (S 1024 0) + 2 * ((S' 1020 0) - (S 1020 0)) + 2 * (30 * (20 - (S 1023 0)) + 30)) ∧ -1 ≤ r ∧ r < 12000 ∧ ((S' 1021 0) = 0 → (S 1020 0) < (S' 1020 0) ∧ (S 1024 0) ≤ r ∧ sm_sx (S' 1100001) (S' 1100002) (S' 1100005) (S' 1100003) (S' 1100004) (S' 1024 0) 2 r (17 * (21 - (S 1023 0)) + 5) (21 - (S 1023 0)) (if 0 < (S 1044 0) then 1 else 0) (if 0 < (S 1044 0) + (S 1045 0) then 1 else 0) ∧ (S' 1100002 r) = (17 * (21 - (S 1023 0)) + 5) ∧ (S' 1100005 r) = (21 - (S 1023 0)) ∧ (S' 1100003 r) = (if 0 < (S 1044 0) then 1 else 0) ∧ (S' 1100004 r) = (if 0 < (S 1044 0) + (S 1045 0) then 1 else 0) ∧ 0 ≤ r ∧ r < (S' 1024 0) ∧ (S' 1100035 r) = (S' 1100036 0)))
def T_counted (d : Int) : Prop := ∀ (S : sv_S), sm_ok S → (0 ≤ (S 1020 0) ∧ (S 1020 0) < (S 1012 0) ∧ sm_TK (S 6) (S 8) (S 9) (S 10) (S 1012 0) ∧ 0 ≤ (S 1021 0) ∧ 0 ≤ (S 1004 0) ∧ (S 1004 0) ≤ 4000 ∧ 1 ≤ (S 1007 0) ∧ (S 1007 0) ≤ 90 ∧ sm_LN (S 4) 400 (S 1007 0) ∧ ((S 1021 0) = 0 → sm_WF (S 11) (S 12) (S 13) (S 1100001) (S 1100002) (S 1100005) (S 1100003) (S 1100004) (S 1024 0) (S 1007 0) (S 1009 0) (sm_fn (S 1032 0) (S 21) (S 1043 0)) ∧ sm_FT (S 11) (S 12) (S 13) (S 1100019) (S 17) (S 18) (S 21) (S 19) (S 20) (S 22) (S 1100016) (S 1024 0) (S 1007 0) (S 1009 0) (S 1032 0) (S 1032 0) ∧ sm_WG (S 1100001) (S 1100019) (S 1043 0) ∧ (S 1100016 (S 1043 0)) = 0 ∧ sm_RG (S 11) (S 12) (S 13) (S 1100035) (S 1024 0)) ∧ -1 ≤ (S 1100036 0) ∧ (S 1100036 0) < (S 1024 0) ∧ sm_HD (S 23) (S 24) (S 1100018 0) (S 1007 0) ∧ sm_HD (S 25) (fun _ : Int => (S 1042 0)) 1 (S 1007 0) ∧ 0 ≤ (S 1043 0) ∧ (S 1043 0) < (S 1100018 0) ∧ (S 1100018 0) = (S 1032 0) ∧ (S 1032 0) ≤ 1 + (S 1020 0) ∧ 0 ≤ (S 1031 0) ∧ (S 1031 0) ≤ 100 ∧ 0 ≤ (S 1044 0) ∧ (S 1044 0) ≤ 30 ∧ 0 ≤ (S 1045 0) ∧ (S 1045 0) ≤ 30 ∧ 0 ≤ (S 1024 0) ∧ ((S 1021 0) = 0 → 0 ≤ (S 1023 0) ∧ (S 1023 0) ≤ 20 ∧ (S 1031 0) ≤ 3 * (S 1023 0) + 5 ∧ (S 1024 0) ≤ 2 * (S 1020 0) ∧ (S 1044 0) ≤ (S 1023 0) ∧ (S 1045 0) ≤ (S 1023 0)) ∧ (S 1021 0) = 0 ∧ 1 ≤ (S 1023 0) ∧ (S 1044 0) + 1 ≤ (S 1023 0) ∧ (S 1045 0) + 1 ≤ (S 1023 0) ∧ (S 1031 0) ≤ 3 * (S 1023 0) + 2 ∧ 1 ≤ (S 6 (S 1020 0)) ∧ (S 6 (S 1020 0)) ≤ 5) → (30 * (20 - (S 1023 0)) + 30) = d → sv_T sm_XS sm_cs sm_L sm_sh (30 * (20 - (S 1023 0)) + 30).toNat (q_counted S) 76 0 (lv_args 0 [.ref 0]) [] S
def q_each (p1 : Int) (S : sv_S) : Option Value → sv_S → Prop := fun v S' => ∃ r : Int, v = some (sv_I r) ∧ sv_R r ∧ sm_ok S' ∧ sv_mod [1020, 1021, 1022, 1023, 5, 1011, 3, 4, 1007, 1009, 11, 12, 13, 14, 1024, 15, 16, 1031, 1032, 17, 18, 19, 20, 21, 22, 23, 24, 25, 1042, 1043, 1044, 1045, 1100001, 1100002, 1100005, 1100003, 1100004, 1100018, 1100019, 1100016, 1100035, 1100036] S S' ∧ ((S 1020 0) ≤ (S' 1020 0) ∧ (S' 1020 0) < (S' 1012 0) ∧ 0 ≤ (S' 1021 0) ∧ (0 < (S 1021 0) → 0 < (S' 1021 0)) ∧ (S 1007 0) ≤ (S' 1007 0) ∧ (S' 1007 0) ≤ 90 ∧ sm_LN (S' 4) 400 (S' 1007 0) ∧ ((S 1009 0) = 1 → (S' 1009 0) = 1) ∧ ((S' 1021 0) = 0 → sm_WF (S' 11) (S' 12) (S' 13) (S' 1100001) (S' 1100002) (S' 1100005) (S' 1100003) (S' 1100004) (S' 1024 0) (S' 1007 0) (S' 1009 0) (sm_fn (S' 1032 0) (S' 21) (S' 1043 0)) ∧ sm_PX (S 11) (S 12) (S 13) (S 1100001) (S 1100002) (S 1100005) (S 1100003) (S 1100004) (S' 11) (S' 12) (S' 13) (S' 1100001) (S' 1100002) (S' 1100005) (S' 1100003) (S' 1100004) (S 1024 0) ∧ sm_FT (S' 11) (S' 12) (S' 13) (S' 1100019) (S' 17) (S' 18) (S' 21) (S' 19) (S' 20) (S' 22) (S' 1100016) (S' 1024 0) (S' 1007 0) (S' 1009 0) (S' 1032 0) (S' 1032 0) ∧ sm_WG (S' 1100001) (S' 1100019) (S' 1043 0) ∧ sm_F1 (S 1100019) (S' 1100019) (S 1024 0) ∧ sm_F1 (S 1100035) (S' 1100035) (S 1024 0) ∧ sm_F1 (S 17) (S' 17) (S 1032 0) ∧ sm_F1 (S 18) (S' 18) (S 1032 0) ∧ sm_F1 (S 21) (S' 21) (S 1032 0) ∧ sm_F1 (S 20) (S' 20) (S 1032 0) ∧ sm_F1 (S 22) (S' 22) (S 1032 0) ∧ sm_F1 (S 1100016) (S' 1100016) (S 1032 0) ∧ sm_F1 (S 19) (S' 19) (8 * (S 1032 0)) ∧ sm_FN (S' 1100016) (S 1032 0) (S' 1032 0) ∧ sm_RG (S' 11) (S' 12) (S' 13) (S' 1100035) (S' 1024 0)) ∧ (S' 1100036 0) = (S 1100036 0) ∧ sm_KL (S 15) (S 16) (S' 15) (S' 16) (S 1031 0) ∧ sm_HD (S' 23) (S' 24) (S' 1100018 0) (S' 1007 0) ∧ sm_HD (S' 25) (fun _ : Int => (S' 1042 0)) 1 (S' 1007 0) ∧ (S' 1031 0) = (S 1031 0) ∧ (S' 1043 0) = (S 1043 0) ∧ (S' 1044 0) = (S 1044 0) ∧ (S' 1045 0) = (S 1045 0) ∧ (S 1032 0) ≤ (S' 1032 0) ∧ (S' 1032 0) ≤ 1 + (S' 1020 0) ∧ (S' 1100018 0) = (S' 1032 0) ∧ (S 1024 0) ≤ (S' 1024 0) ∧ ((S' 1021 0) = 0 → (S' 1023 0) = (S 1023 0) ∧ (S' 1024 0) + 0 ≤ (S 1024 0) + 2 * ((S' 1020 0) - (S 1020 0))) ∧ (0 < (S' 1021 0) → (S' 1024 0) ≤ (S 1024 0) + 2 * ((S' 1020 0) - (S 1020 0)) + 2 * (30 * (20 - (S 1023 0)) + 29)) ∧ -1 ≤ r ∧ r < 12000 ∧ ((S' 1021 0) = 0 → (S 1020 0) < (S' 1020 0) ∧ (S 1024 0) ≤ r ∧ sm_sx (S' 1100001) (S' 1100002) (S' 1100005) (S' 1100003) (S' 1100004) (S' 1024 0) 2 r (17 * (21 - (S 1023 0)) + 5) (21 - (S 1023 0)) (if 0 < (S 1044 0) then 1 else 0) (if 0 < (S 1044 0) + (S 1045 0) then 1 else 0) ∧ (S' 1100002 r) = (17 * (21 - (S 1023 0)) + 5) ∧ (S' 1100005 r) = (21 - (S 1023 0)) ∧ (S' 1100003 r) = (if 0 < (S 1044 0) then 1 else 0) ∧ (S' 1100004 r) = (if 0 < (S 1044 0) + (S 1045 0) then 1 else 0) ∧ 0 ≤ r ∧ r < (S' 1024 0) ∧ (S' 1100035 r) = (S' 1100036 0)))
def T_each (d : Int) : Prop := ∀ (p1 : Int) (S : sv_S), sm_ok S → (0 ≤ p1 ∧ p1 ≤ 1) → (0 ≤ (S 1020 0) ∧ (S 1020 0) < (S 1012 0) ∧ sm_TK (S 6) (S 8) (S 9) (S 10) (S 1012 0) ∧ 0 ≤ (S 1021 0) ∧ 0 ≤ (S 1004 0) ∧ (S 1004 0) ≤ 4000 ∧ 1 ≤ (S 1007 0) ∧ (S 1007 0) ≤ 90 ∧ sm_LN (S 4) 400 (S 1007 0) ∧ ((S 1021 0) = 0 → sm_WF (S 11) (S 12) (S 13) (S 1100001) (S 1100002) (S 1100005) (S 1100003) (S 1100004) (S 1024 0) (S 1007 0) (S 1009 0) (sm_fn (S 1032 0) (S 21) (S 1043 0)) ∧ sm_FT (S 11) (S 12) (S 13) (S 1100019) (S 17) (S 18) (S 21) (S 19) (S 20) (S 22) (S 1100016) (S 1024 0) (S 1007 0) (S 1009 0) (S 1032 0) (S 1032 0) ∧ sm_WG (S 1100001) (S 1100019) (S 1043 0) ∧ (S 1100016 (S 1043 0)) = 0 ∧ sm_RG (S 11) (S 12) (S 13) (S 1100035) (S 1024 0)) ∧ -1 ≤ (S 1100036 0) ∧ (S 1100036 0) < (S 1024 0) ∧ sm_HD (S 23) (S 24) (S 1100018 0) (S 1007 0) ∧ sm_HD (S 25) (fun _ : Int => (S 1042 0)) 1 (S 1007 0) ∧ 0 ≤ (S 1043 0) ∧ (S 1043 0) < (S 1100018 0) ∧ (S 1100018 0) = (S 1032 0) ∧ (S 1032 0) ≤ 1 + (S 1020 0) ∧ 0 ≤ (S 1031 0) ∧ (S 1031 0) ≤ 100 ∧ 0 ≤ (S 1044 0) ∧ (S 1044 0) ≤ 30 ∧ 0 ≤ (S 1045 0) ∧ (S 1045 0) ≤ 30 ∧ 0 ≤ (S 1024 0) ∧ ((S 1021 0) = 0 → 0 ≤ (S 1023 0) ∧ (S 1023 0) ≤ 20 ∧ (S 1031 0) ≤ 3 * (S 1023 0) + 5 ∧ (S 1024 0) ≤ 2 * (S 1020 0) ∧ (S 1044 0) ≤ (S 1023 0) ∧ (S 1045 0) ≤ (S 1023 0)) ∧ (S 1021 0) = 0 ∧ 1 ≤ (S 1023 0) ∧ (S 1044 0) + 1 ≤ (S 1023 0) ∧ (S 1045 0) + 1 ≤ (S 1023 0) ∧ (S 1031 0) ≤ 3 * (S 1023 0) + 2 ∧ (p1 = 1 → (S 6 (S 1020 0)) = 2 ∧ (S 6 ((S 1020 0) + 1)) = 1 ∧ (S 6 ((S 1020 0) + 2)) = 2) ∧ (p1 = 0 → (S 6 (S 1020 0)) = 1 ∧ (S 6 ((S 1020 0) + 1)) = 2)) → (30 * (20 - (S 1023 0)) + 29) = d → sv_T sm_XS sm_cs sm_L sm_sh (30 * (20 - (S 1023 0)) + 29).toNat (q_each p1 S) 77 0 (lv_args 0 [.ref 0, sv_I p1]) [] S
def q_back_ (S : sv_S) : Option Value → sv_S → Prop := fun v S' => ∃ r : Int, v = some (sv_I r) ∧ sv_R r ∧ sm_ok S' ∧ sv_mod [1020, 1021, 1022, 1023, 5, 1011, 3, 4, 1007, 1009, 11, 12, 13, 14, 1024, 15, 16, 1031, 1032, 17, 18, 19, 20, 21, 22, 23, 24, 25, 1042, 1043, 1044, 1045, 1100001, 1100002, 1100005, 1100003, 1100004, 1100018, 1100019, 1100016, 1100035, 1100036] S S' ∧ ((S 1020 0) ≤ (S' 1020 0) ∧ (S' 1020 0) < (S' 1012 0) ∧ 0 ≤ (S' 1021 0) ∧ (0 < (S 1021 0) → 0 < (S' 1021 0)) ∧ (S 1007 0) ≤ (S' 1007 0) ∧ (S' 1007 0) ≤ 90 ∧ sm_LN (S' 4) 400 (S' 1007 0) ∧ ((S 1009 0) = 1 → (S' 1009 0) = 1) ∧ ((S' 1021 0) = 0 → sm_WF (S' 11) (S' 12) (S' 13) (S' 1100001) (S' 1100002) (S' 1100005) (S' 1100003) (S' 1100004) (S' 1024 0) (S' 1007 0) (S' 1009 0) (sm_fn (S' 1032 0) (S' 21) (S' 1043 0)) ∧ sm_PX (S 11) (S 12) (S 13) (S 1100001) (S 1100002) (S 1100005) (S 1100003) (S 1100004) (S' 11) (S' 12) (S' 13) (S' 1100001) (S' 1100002) (S' 1100005) (S' 1100003) (S' 1100004) (S 1024 0) ∧ sm_FT (S' 11) (S' 12) (S' 13) (S' 1100019) (S' 17) (S' 18) (S' 21) (S' 19) (S' 20) (S' 22) (S' 1100016) (S' 1024 0) (S' 1007 0) (S' 1009 0) (S' 1032 0) (S' 1032 0) ∧ sm_WG (S' 1100001) (S' 1100019) (S' 1043 0) ∧ sm_F1 (S 1100019) (S' 1100019) (S 1024 0) ∧ sm_F1 (S 1100035) (S' 1100035) (S 1024 0) ∧ sm_F1 (S 17) (S' 17) (S 1032 0) ∧ sm_F1 (S 18) (S' 18) (S 1032 0) ∧ sm_F1 (S 21) (S' 21) (S 1032 0) ∧ sm_F1 (S 20) (S' 20) (S 1032 0) ∧ sm_F1 (S 22) (S' 22) (S 1032 0) ∧ sm_F1 (S 1100016) (S' 1100016) (S 1032 0) ∧ sm_F1 (S 19) (S' 19) (8 * (S 1032 0)) ∧ sm_FN (S' 1100016) (S 1032 0) (S' 1032 0) ∧ sm_RG (S' 11) (S' 12) (S' 13) (S' 1100035) (S' 1024 0)) ∧ (S' 1100036 0) = (S 1100036 0) ∧ sm_KL (S 15) (S 16) (S' 15) (S' 16) (S 1031 0) ∧ sm_HD (S' 23) (S' 24) (S' 1100018 0) (S' 1007 0) ∧ sm_HD (S' 25) (fun _ : Int => (S' 1042 0)) 1 (S' 1007 0) ∧ (S' 1031 0) = (S 1031 0) ∧ (S' 1043 0) = (S 1043 0) ∧ (S' 1044 0) = (S 1044 0) ∧ (S' 1045 0) = (S 1045 0) ∧ (S 1032 0) ≤ (S' 1032 0) ∧ (S' 1032 0) ≤ 1 + (S' 1020 0) ∧ (S' 1100018 0) = (S' 1032 0) ∧ (S 1024 0) ≤ (S' 1024 0) ∧ ((S' 1021 0) = 0 → (S' 1023 0) = (S 1023 0) ∧ (S' 1024 0) + 0 ≤ (S 1024 0) + 2 * ((S' 1020 0) - (S 1020 0))) ∧ (0 < (S' 1021 0) → (S' 1024 0) ≤ (S 1024 0) + 2 * ((S' 1020 0) - (S 1020 0)) + 2 * (30 * (20 - (S 1023 0)) + 28)) ∧ -1 ≤ r ∧ r < 12000 ∧ ((S' 1021 0) = 0 → (S 1020 0) < (S' 1020 0) ∧ (S 1024 0) ≤ r ∧ sm_sx (S' 1100001) (S' 1100002) (S' 1100005) (S' 1100003) (S' 1100004) (S' 1024 0) 2 r (17 * (21 - (S 1023 0)) + 5) (21 - (S 1023 0)) (if 0 < (S 1044 0) then 1 else 0) (if 0 < (S 1044 0) + (S 1045 0) then 1 else 0) ∧ (S' 1100002 r) = (17 * (21 - (S 1023 0)) + 5) ∧ (S' 1100005 r) = (21 - (S 1023 0)) ∧ (S' 1100003 r) = (if 0 < (S 1044 0) then 1 else 0) ∧ (S' 1100004 r) = (if 0 < (S 1044 0) + (S 1045 0) then 1 else 0) ∧ 0 ≤ r ∧ r < (S' 1024 0) ∧ (S' 1100035 r) = (S' 1100036 0)))
def T_back_ (d : Int) : Prop := ∀ (S : sv_S), sm_ok S → (0 ≤ (S 1020 0) ∧ (S 1020 0) < (S 1012 0) ∧ sm_TK (S 6) (S 8) (S 9) (S 10) (S 1012 0) ∧ 0 ≤ (S 1021 0) ∧ 0 ≤ (S 1004 0) ∧ (S 1004 0) ≤ 4000 ∧ 1 ≤ (S 1007 0) ∧ (S 1007 0) ≤ 90 ∧ sm_LN (S 4) 400 (S 1007 0) ∧ ((S 1021 0) = 0 → sm_WF (S 11) (S 12) (S 13) (S 1100001) (S 1100002) (S 1100005) (S 1100003) (S 1100004) (S 1024 0) (S 1007 0) (S 1009 0) (sm_fn (S 1032 0) (S 21) (S 1043 0)) ∧ sm_FT (S 11) (S 12) (S 13) (S 1100019) (S 17) (S 18) (S 21) (S 19) (S 20) (S 22) (S 1100016) (S 1024 0) (S 1007 0) (S 1009 0) (S 1032 0) (S 1032 0) ∧ sm_WG (S 1100001) (S 1100019) (S 1043 0) ∧ (S 1100016 (S 1043 0)) = 0 ∧ sm_RG (S 11) (S 12) (S 13) (S 1100035) (S 1024 0)) ∧ -1 ≤ (S 1100036 0) ∧ (S 1100036 0) < (S 1024 0) ∧ sm_HD (S 23) (S 24) (S 1100018 0) (S 1007 0) ∧ sm_HD (S 25) (fun _ : Int => (S 1042 0)) 1 (S 1007 0) ∧ 0 ≤ (S 1043 0) ∧ (S 1043 0) < (S 1100018 0) ∧ (S 1100018 0) = (S 1032 0) ∧ (S 1032 0) ≤ 1 + (S 1020 0) ∧ 0 ≤ (S 1031 0) ∧ (S 1031 0) ≤ 100 ∧ 0 ≤ (S 1044 0) ∧ (S 1044 0) ≤ 30 ∧ 0 ≤ (S 1045 0) ∧ (S 1045 0) ≤ 30 ∧ 0 ≤ (S 1024 0) ∧ ((S 1021 0) = 0 → 0 ≤ (S 1023 0) ∧ (S 1023 0) ≤ 20 ∧ (S 1031 0) ≤ 3 * (S 1023 0) + 5 ∧ (S 1024 0) ≤ 2 * (S 1020 0) ∧ (S 1044 0) ≤ (S 1023 0) ∧ (S 1045 0) ≤ (S 1023 0)) ∧ (S 1021 0) = 0 ∧ 1 ≤ (S 1023 0) ∧ (S 1044 0) + 1 ≤ (S 1023 0) ∧ (S 1045 0) + 1 ≤ (S 1023 0) ∧ (S 1031 0) ≤ 3 * (S 1023 0) + 2 ∧ 1 ≤ (S 6 (S 1020 0)) ∧ (S 6 (S 1020 0)) ≤ 5) → (30 * (20 - (S 1023 0)) + 28) = d → sv_T sm_XS sm_cs sm_L sm_sh (30 * (20 - (S 1023 0)) + 28).toNat (q_back_ S) 78 0 (lv_args 0 [.ref 0]) [] S
def q_toss (S : sv_S) : Option Value → sv_S → Prop := fun v S' => ∃ r : Int, v = some (sv_I r) ∧ sv_R r ∧ sm_ok S' ∧ sv_mod [1020, 1021, 1022, 1023, 5, 1011, 3, 4, 1007, 1009, 11, 12, 13, 14, 1024, 15, 16, 1031, 1032, 17, 18, 19, 20, 21, 22, 23, 24, 25, 1042, 1043, 1044, 1045, 1100001, 1100002, 1100005, 1100003, 1100004, 1100018, 1100019, 1100016, 1100035, 1100036] S S' ∧ ((S 1020 0) ≤ (S' 1020 0) ∧ (S' 1020 0) < (S' 1012 0) ∧ 0 ≤ (S' 1021 0) ∧ (0 < (S 1021 0) → 0 < (S' 1021 0)) ∧ (S 1007 0) ≤ (S' 1007 0) ∧ (S' 1007 0) ≤ 90 ∧ sm_LN (S' 4) 400 (S' 1007 0) ∧ ((S 1009 0) = 1 → (S' 1009 0) = 1) ∧ ((S' 1021 0) = 0 → sm_WF (S' 11) (S' 12) (S' 13) (S' 1100001) (S' 1100002) (S' 1100005) (S' 1100003) (S' 1100004) (S' 1024 0) (S' 1007 0) (S' 1009 0) (sm_fn (S' 1032 0) (S' 21) (S' 1043 0)) ∧ sm_PX (S 11) (S 12) (S 13) (S 1100001) (S 1100002) (S 1100005) (S 1100003) (S 1100004) (S' 11) (S' 12) (S' 13) (S' 1100001) (S' 1100002) (S' 1100005) (S' 1100003) (S' 1100004) (S 1024 0) ∧ sm_FT (S' 11) (S' 12) (S' 13) (S' 1100019) (S' 17) (S' 18) (S' 21) (S' 19) (S' 20) (S' 22) (S' 1100016) (S' 1024 0) (S' 1007 0) (S' 1009 0) (S' 1032 0) (S' 1032 0) ∧ sm_WG (S' 1100001) (S' 1100019) (S' 1043 0) ∧ sm_F1 (S 1100019) (S' 1100019) (S 1024 0) ∧ sm_F1 (S 1100035) (S' 1100035) (S 1024 0) ∧ sm_F1 (S 17) (S' 17) (S 1032 0) ∧ sm_F1 (S 18) (S' 18) (S 1032 0) ∧ sm_F1 (S 21) (S' 21) (S 1032 0) ∧ sm_F1 (S 20) (S' 20) (S 1032 0) ∧ sm_F1 (S 22) (S' 22) (S 1032 0) ∧ sm_F1 (S 1100016) (S' 1100016) (S 1032 0) ∧ sm_F1 (S 19) (S' 19) (8 * (S 1032 0)) ∧ sm_FN (S' 1100016) (S 1032 0) (S' 1032 0) ∧ sm_RG (S' 11) (S' 12) (S' 13) (S' 1100035) (S' 1024 0)) ∧ (S' 1100036 0) = (S 1100036 0) ∧ sm_KL (S 15) (S 16) (S' 15) (S' 16) (S 1031 0) ∧ sm_HD (S' 23) (S' 24) (S' 1100018 0) (S' 1007 0) ∧ sm_HD (S' 25) (fun _ : Int => (S' 1042 0)) 1 (S' 1007 0) ∧ (S' 1031 0) = (S 1031 0) ∧ (S' 1043 0) = (S 1043 0) ∧ (S' 1044 0) = (S 1044 0) ∧ (S' 1045 0) = (S 1045 0) ∧ (S 1032 0) ≤ (S' 1032 0) ∧ (S' 1032 0) ≤ 1 + (S' 1020 0) ∧ (S' 1100018 0) = (S' 1032 0) ∧ (S 1024 0) ≤ (S' 1024 0) ∧ ((S' 1021 0) = 0 → (S' 1023 0) = (S 1023 0) ∧ (S' 1024 0) + 0 ≤ (S 1024 0) + 2 * ((S' 1020 0) - (S 1020 0))) ∧ (0 < (S' 1021 0) → (S' 1024 0) ≤ (S 1024 0) + 2 * ((S' 1020 0) - (S 1020 0)) + 2 * (30 * (20 - (S 1023 0)) + 28)) ∧ -1 ≤ r ∧ r < 12000 ∧ ((S' 1021 0) = 0 → (S 1020 0) < (S' 1020 0) ∧ (S 1024 0) ≤ r ∧ sm_sx (S' 1100001) (S' 1100002) (S' 1100005) (S' 1100003) (S' 1100004) (S' 1024 0) 2 r (17 * (21 - (S 1023 0)) + 5) (21 - (S 1023 0)) (if 0 < (S 1044 0) then 1 else 0) (if 0 < (S 1044 0) + (S 1045 0) then 1 else 0) ∧ (S' 1100002 r) = (17 * (21 - (S 1023 0)) + 5) ∧ (S' 1100005 r) = (21 - (S 1023 0)) ∧ (S' 1100003 r) = (if 0 < (S 1044 0) then 1 else 0) ∧ (S' 1100004 r) = (if 0 < (S 1044 0) + (S 1045 0) then 1 else 0) ∧ 0 ≤ r ∧ r < (S' 1024 0) ∧ (S' 1100035 r) = (S' 1100036 0)))
def T_toss (d : Int) : Prop := ∀ (S : sv_S), sm_ok S → (0 ≤ (S 1020 0) ∧ (S 1020 0) < (S 1012 0) ∧ sm_TK (S 6) (S 8) (S 9) (S 10) (S 1012 0) ∧ 0 ≤ (S 1021 0) ∧ 0 ≤ (S 1004 0) ∧ (S 1004 0) ≤ 4000 ∧ 1 ≤ (S 1007 0) ∧ (S 1007 0) ≤ 90 ∧ sm_LN (S 4) 400 (S 1007 0) ∧ ((S 1021 0) = 0 → sm_WF (S 11) (S 12) (S 13) (S 1100001) (S 1100002) (S 1100005) (S 1100003) (S 1100004) (S 1024 0) (S 1007 0) (S 1009 0) (sm_fn (S 1032 0) (S 21) (S 1043 0)) ∧ sm_FT (S 11) (S 12) (S 13) (S 1100019) (S 17) (S 18) (S 21) (S 19) (S 20) (S 22) (S 1100016) (S 1024 0) (S 1007 0) (S 1009 0) (S 1032 0) (S 1032 0) ∧ sm_WG (S 1100001) (S 1100019) (S 1043 0) ∧ (S 1100016 (S 1043 0)) = 0 ∧ sm_RG (S 11) (S 12) (S 13) (S 1100035) (S 1024 0)) ∧ -1 ≤ (S 1100036 0) ∧ (S 1100036 0) < (S 1024 0) ∧ sm_HD (S 23) (S 24) (S 1100018 0) (S 1007 0) ∧ sm_HD (S 25) (fun _ : Int => (S 1042 0)) 1 (S 1007 0) ∧ 0 ≤ (S 1043 0) ∧ (S 1043 0) < (S 1100018 0) ∧ (S 1100018 0) = (S 1032 0) ∧ (S 1032 0) ≤ 1 + (S 1020 0) ∧ 0 ≤ (S 1031 0) ∧ (S 1031 0) ≤ 100 ∧ 0 ≤ (S 1044 0) ∧ (S 1044 0) ≤ 30 ∧ 0 ≤ (S 1045 0) ∧ (S 1045 0) ≤ 30 ∧ 0 ≤ (S 1024 0) ∧ ((S 1021 0) = 0 → 0 ≤ (S 1023 0) ∧ (S 1023 0) ≤ 20 ∧ (S 1031 0) ≤ 3 * (S 1023 0) + 5 ∧ (S 1024 0) ≤ 2 * (S 1020 0) ∧ (S 1044 0) ≤ (S 1023 0) ∧ (S 1045 0) ≤ (S 1023 0)) ∧ (S 1021 0) = 0 ∧ 1 ≤ (S 1023 0) ∧ (S 1044 0) + 1 ≤ (S 1023 0) ∧ (S 1045 0) + 1 ≤ (S 1023 0) ∧ (S 1031 0) ≤ 3 * (S 1023 0) + 2 ∧ 1 ≤ (S 6 (S 1020 0)) ∧ (S 6 (S 1020 0)) ≤ 5) → (30 * (20 - (S 1023 0)) + 28) = d → sv_T sm_XS sm_cs sm_L sm_sh (30 * (20 - (S 1023 0)) + 28).toNat (q_toss S) 79 0 (lv_args 0 [.ref 0]) [] S
def q_attempt (S : sv_S) : Option Value → sv_S → Prop := fun v S' => ∃ r : Int, v = some (sv_I r) ∧ sv_R r ∧ sm_ok S' ∧ sv_mod [1020, 1021, 1022, 1023, 5, 1011, 3, 4, 1007, 1009, 11, 12, 13, 14, 1024, 15, 16, 1031, 1032, 17, 18, 19, 20, 21, 22, 23, 24, 25, 1042, 1043, 1044, 1045, 1100001, 1100002, 1100005, 1100003, 1100004, 1100018, 1100019, 1100016, 1100035, 1100036] S S' ∧ ((S 1020 0) ≤ (S' 1020 0) ∧ (S' 1020 0) < (S' 1012 0) ∧ 0 ≤ (S' 1021 0) ∧ (0 < (S 1021 0) → 0 < (S' 1021 0)) ∧ (S 1007 0) ≤ (S' 1007 0) ∧ (S' 1007 0) ≤ 90 ∧ sm_LN (S' 4) 400 (S' 1007 0) ∧ ((S 1009 0) = 1 → (S' 1009 0) = 1) ∧ ((S' 1021 0) = 0 → sm_WF (S' 11) (S' 12) (S' 13) (S' 1100001) (S' 1100002) (S' 1100005) (S' 1100003) (S' 1100004) (S' 1024 0) (S' 1007 0) (S' 1009 0) (sm_fn (S' 1032 0) (S' 21) (S' 1043 0)) ∧ sm_PX (S 11) (S 12) (S 13) (S 1100001) (S 1100002) (S 1100005) (S 1100003) (S 1100004) (S' 11) (S' 12) (S' 13) (S' 1100001) (S' 1100002) (S' 1100005) (S' 1100003) (S' 1100004) (S 1024 0) ∧ sm_FT (S' 11) (S' 12) (S' 13) (S' 1100019) (S' 17) (S' 18) (S' 21) (S' 19) (S' 20) (S' 22) (S' 1100016) (S' 1024 0) (S' 1007 0) (S' 1009 0) (S' 1032 0) (S' 1032 0) ∧ sm_WG (S' 1100001) (S' 1100019) (S' 1043 0) ∧ sm_F1 (S 1100019) (S' 1100019) (S 1024 0) ∧ sm_F1 (S 1100035) (S' 1100035) (S 1024 0) ∧ sm_F1 (S 17) (S' 17) (S 1032 0) ∧ sm_F1 (S 18) (S' 18) (S 1032 0) ∧ sm_F1 (S 21) (S' 21) (S 1032 0) ∧ sm_F1 (S 20) (S' 20) (S 1032 0) ∧ sm_F1 (S 22) (S' 22) (S 1032 0) ∧ sm_F1 (S 1100016) (S' 1100016) (S 1032 0) ∧ sm_F1 (S 19) (S' 19) (8 * (S 1032 0)) ∧ sm_FN (S' 1100016) (S 1032 0) (S' 1032 0) ∧ sm_RG (S' 11) (S' 12) (S' 13) (S' 1100035) (S' 1024 0)) ∧ (S' 1100036 0) = (S 1100036 0) ∧ sm_KL (S 15) (S 16) (S' 15) (S' 16) (S 1031 0) ∧ sm_HD (S' 23) (S' 24) (S' 1100018 0) (S' 1007 0) ∧ sm_HD (S' 25) (fun _ : Int => (S' 1042 0)) 1 (S' 1007 0) ∧ (S' 1031 0) = (S 1031 0) ∧ (S' 1043 0) = (S 1043 0) ∧ (S' 1044 0) = (S 1044 0) ∧ (S' 1045 0) = (S 1045 0) ∧ (S 1032 0) ≤ (S' 1032 0) ∧ (S' 1032 0) ≤ 1 + (S' 1020 0) ∧ (S' 1100018 0) = (S' 1032 0) ∧ (S 1024 0) ≤ (S' 1024 0) ∧ ((S' 1021 0) = 0 → (S' 1023 0) = (S 1023 0) ∧ (S' 1024 0) + 0 ≤ (S 1024 0) + 2 * ((S' 1020 0) - (S 1020 0))) ∧ (0 < (S' 1021 0) → (S' 1024 0) ≤ (S 1024 0) + 2 * ((S' 1020 0) - (S 1020 0)) + 2 * (30 * (20 - (S 1023 0)) + 29)) ∧ -1 ≤ r ∧ r < 12000 ∧ ((S' 1021 0) = 0 → (S 1020 0) < (S' 1020 0) ∧ (S 1024 0) ≤ r ∧ sm_sx (S' 1100001) (S' 1100002) (S' 1100005) (S' 1100003) (S' 1100004) (S' 1024 0) 2 r (17 * (21 - (S 1023 0)) + 5) (21 - (S 1023 0)) (if 0 < (S 1044 0) then 1 else 0) (if 0 < (S 1044 0) + (S 1045 0) then 1 else 0) ∧ (S' 1100002 r) = (17 * (21 - (S 1023 0)) + 5) ∧ (S' 1100005 r) = (21 - (S 1023 0)) ∧ (S' 1100003 r) = (if 0 < (S 1044 0) then 1 else 0) ∧ (S' 1100004 r) = (if 0 < (S 1044 0) + (S 1045 0) then 1 else 0) ∧ 0 ≤ r ∧ r < (S' 1024 0) ∧ (S' 1100035 r) = (S' 1100036 0)))
def T_attempt (d : Int) : Prop := ∀ (S : sv_S), sm_ok S → (0 ≤ (S 1020 0) ∧ (S 1020 0) < (S 1012 0) ∧ sm_TK (S 6) (S 8) (S 9) (S 10) (S 1012 0) ∧ 0 ≤ (S 1021 0) ∧ 0 ≤ (S 1004 0) ∧ (S 1004 0) ≤ 4000 ∧ 1 ≤ (S 1007 0) ∧ (S 1007 0) ≤ 90 ∧ sm_LN (S 4) 400 (S 1007 0) ∧ ((S 1021 0) = 0 → sm_WF (S 11) (S 12) (S 13) (S 1100001) (S 1100002) (S 1100005) (S 1100003) (S 1100004) (S 1024 0) (S 1007 0) (S 1009 0) (sm_fn (S 1032 0) (S 21) (S 1043 0)) ∧ sm_FT (S 11) (S 12) (S 13) (S 1100019) (S 17) (S 18) (S 21) (S 19) (S 20) (S 22) (S 1100016) (S 1024 0) (S 1007 0) (S 1009 0) (S 1032 0) (S 1032 0) ∧ sm_WG (S 1100001) (S 1100019) (S 1043 0) ∧ (S 1100016 (S 1043 0)) = 0 ∧ sm_RG (S 11) (S 12) (S 13) (S 1100035) (S 1024 0)) ∧ -1 ≤ (S 1100036 0) ∧ (S 1100036 0) < (S 1024 0) ∧ sm_HD (S 23) (S 24) (S 1100018 0) (S 1007 0) ∧ sm_HD (S 25) (fun _ : Int => (S 1042 0)) 1 (S 1007 0) ∧ 0 ≤ (S 1043 0) ∧ (S 1043 0) < (S 1100018 0) ∧ (S 1100018 0) = (S 1032 0) ∧ (S 1032 0) ≤ 1 + (S 1020 0) ∧ 0 ≤ (S 1031 0) ∧ (S 1031 0) ≤ 100 ∧ 0 ≤ (S 1044 0) ∧ (S 1044 0) ≤ 30 ∧ 0 ≤ (S 1045 0) ∧ (S 1045 0) ≤ 30 ∧ 0 ≤ (S 1024 0) ∧ ((S 1021 0) = 0 → 0 ≤ (S 1023 0) ∧ (S 1023 0) ≤ 20 ∧ (S 1031 0) ≤ 3 * (S 1023 0) + 5 ∧ (S 1024 0) ≤ 2 * (S 1020 0) ∧ (S 1044 0) ≤ (S 1023 0) ∧ (S 1045 0) ≤ (S 1023 0)) ∧ (S 1021 0) = 0 ∧ 1 ≤ (S 1023 0) ∧ (S 1044 0) + 1 ≤ (S 1023 0) ∧ (S 1045 0) + 1 ≤ (S 1023 0) ∧ (S 1031 0) ≤ 3 * (S 1023 0) + 2 ∧ 1 ≤ (S 6 (S 1020 0)) ∧ (S 6 (S 1020 0)) ≤ 5) → (30 * (20 - (S 1023 0)) + 29) = d → sv_T sm_XS sm_cs sm_L sm_sh (30 * (20 - (S 1023 0)) + 29).toNat (q_attempt S) 80 0 (lv_args 0 [.ref 0]) [] S
def q_cases (S : sv_S) : Option Value → sv_S → Prop := fun v S' => ∃ r : Int, v = some (sv_I r) ∧ sv_R r ∧ sm_ok S' ∧ sv_mod [1020, 1021, 1022, 1023, 5, 1011, 3, 4, 1007, 1009, 11, 12, 13, 14, 1024, 15, 16, 1031, 1032, 17, 18, 19, 20, 21, 22, 23, 24, 25, 1042, 1043, 1044, 1045, 1100001, 1100002, 1100005, 1100003, 1100004, 1100018, 1100019, 1100016, 1100035, 1100036] S S' ∧ ((S 1020 0) ≤ (S' 1020 0) ∧ (S' 1020 0) < (S' 1012 0) ∧ 0 ≤ (S' 1021 0) ∧ (0 < (S 1021 0) → 0 < (S' 1021 0)) ∧ (S 1007 0) ≤ (S' 1007 0) ∧ (S' 1007 0) ≤ 90 ∧ sm_LN (S' 4) 400 (S' 1007 0) ∧ ((S 1009 0) = 1 → (S' 1009 0) = 1) ∧ ((S' 1021 0) = 0 → sm_WF (S' 11) (S' 12) (S' 13) (S' 1100001) (S' 1100002) (S' 1100005) (S' 1100003) (S' 1100004) (S' 1024 0) (S' 1007 0) (S' 1009 0) (sm_fn (S' 1032 0) (S' 21) (S' 1043 0)) ∧ sm_PX (S 11) (S 12) (S 13) (S 1100001) (S 1100002) (S 1100005) (S 1100003) (S 1100004) (S' 11) (S' 12) (S' 13) (S' 1100001) (S' 1100002) (S' 1100005) (S' 1100003) (S' 1100004) (S 1024 0) ∧ sm_FT (S' 11) (S' 12) (S' 13) (S' 1100019) (S' 17) (S' 18) (S' 21) (S' 19) (S' 20) (S' 22) (S' 1100016) (S' 1024 0) (S' 1007 0) (S' 1009 0) (S' 1032 0) (S' 1032 0) ∧ sm_WG (S' 1100001) (S' 1100019) (S' 1043 0) ∧ sm_F1 (S 1100019) (S' 1100019) (S 1024 0) ∧ sm_F1 (S 1100035) (S' 1100035) (S 1024 0) ∧ sm_F1 (S 17) (S' 17) (S 1032 0) ∧ sm_F1 (S 18) (S' 18) (S 1032 0) ∧ sm_F1 (S 21) (S' 21) (S 1032 0) ∧ sm_F1 (S 20) (S' 20) (S 1032 0) ∧ sm_F1 (S 22) (S' 22) (S 1032 0) ∧ sm_F1 (S 1100016) (S' 1100016) (S 1032 0) ∧ sm_F1 (S 19) (S' 19) (8 * (S 1032 0)) ∧ sm_FN (S' 1100016) (S 1032 0) (S' 1032 0) ∧ sm_RG (S' 11) (S' 12) (S' 13) (S' 1100035) (S' 1024 0)) ∧ (S' 1100036 0) = (S 1100036 0) ∧ sm_KL (S 15) (S 16) (S' 15) (S' 16) (S 1031 0) ∧ sm_HD (S' 23) (S' 24) (S' 1100018 0) (S' 1007 0) ∧ sm_HD (S' 25) (fun _ : Int => (S' 1042 0)) 1 (S' 1007 0) ∧ (S' 1031 0) = (S 1031 0) ∧ (S' 1043 0) = (S 1043 0) ∧ (S' 1044 0) = (S 1044 0) ∧ (S' 1045 0) = (S 1045 0) ∧ (S 1032 0) ≤ (S' 1032 0) ∧ (S' 1032 0) ≤ 1 + (S' 1020 0) ∧ (S' 1100018 0) = (S' 1032 0) ∧ (S 1024 0) ≤ (S' 1024 0) ∧ ((S' 1021 0) = 0 → (S' 1023 0) = (S 1023 0) ∧ (S' 1024 0) + 0 ≤ (S 1024 0) + 2 * ((S' 1020 0) - (S 1020 0))) ∧ (0 < (S' 1021 0) → (S' 1024 0) ≤ (S 1024 0) + 2 * ((S' 1020 0) - (S 1020 0)) + 2 * (30 * (20 - (S 1023 0)) + 29)) ∧ -1 ≤ r ∧ r < 12000 ∧ ((S' 1021 0) = 0 → (S 1020 0) < (S' 1020 0) ∧ (S 1024 0) ≤ r ∧ sm_sx (S' 1100001) (S' 1100002) (S' 1100005) (S' 1100003) (S' 1100004) (S' 1024 0) 2 r (17 * (21 - (S 1023 0)) + 5) (21 - (S 1023 0)) (if 0 < (S 1044 0) then 1 else 0) (if 0 < (S 1044 0) + (S 1045 0) then 1 else 0) ∧ (S' 1100002 r) = (17 * (21 - (S 1023 0)) + 5) ∧ (S' 1100005 r) = (21 - (S 1023 0)) ∧ (S' 1100003 r) = (if 0 < (S 1044 0) then 1 else 0) ∧ (S' 1100004 r) = (if 0 < (S 1044 0) + (S 1045 0) then 1 else 0) ∧ 0 ≤ r ∧ r < (S' 1024 0) ∧ (S' 1100035 r) = (S' 1100036 0)))
def T_cases (d : Int) : Prop := ∀ (S : sv_S), sm_ok S → (0 ≤ (S 1020 0) ∧ (S 1020 0) < (S 1012 0) ∧ sm_TK (S 6) (S 8) (S 9) (S 10) (S 1012 0) ∧ 0 ≤ (S 1021 0) ∧ 0 ≤ (S 1004 0) ∧ (S 1004 0) ≤ 4000 ∧ 1 ≤ (S 1007 0) ∧ (S 1007 0) ≤ 90 ∧ sm_LN (S 4) 400 (S 1007 0) ∧ ((S 1021 0) = 0 → sm_WF (S 11) (S 12) (S 13) (S 1100001) (S 1100002) (S 1100005) (S 1100003) (S 1100004) (S 1024 0) (S 1007 0) (S 1009 0) (sm_fn (S 1032 0) (S 21) (S 1043 0)) ∧ sm_FT (S 11) (S 12) (S 13) (S 1100019) (S 17) (S 18) (S 21) (S 19) (S 20) (S 22) (S 1100016) (S 1024 0) (S 1007 0) (S 1009 0) (S 1032 0) (S 1032 0) ∧ sm_WG (S 1100001) (S 1100019) (S 1043 0) ∧ (S 1100016 (S 1043 0)) = 0 ∧ sm_RG (S 11) (S 12) (S 13) (S 1100035) (S 1024 0)) ∧ -1 ≤ (S 1100036 0) ∧ (S 1100036 0) < (S 1024 0) ∧ sm_HD (S 23) (S 24) (S 1100018 0) (S 1007 0) ∧ sm_HD (S 25) (fun _ : Int => (S 1042 0)) 1 (S 1007 0) ∧ 0 ≤ (S 1043 0) ∧ (S 1043 0) < (S 1100018 0) ∧ (S 1100018 0) = (S 1032 0) ∧ (S 1032 0) ≤ 1 + (S 1020 0) ∧ 0 ≤ (S 1031 0) ∧ (S 1031 0) ≤ 100 ∧ 0 ≤ (S 1044 0) ∧ (S 1044 0) ≤ 30 ∧ 0 ≤ (S 1045 0) ∧ (S 1045 0) ≤ 30 ∧ 0 ≤ (S 1024 0) ∧ ((S 1021 0) = 0 → 0 ≤ (S 1023 0) ∧ (S 1023 0) ≤ 20 ∧ (S 1031 0) ≤ 3 * (S 1023 0) + 5 ∧ (S 1024 0) ≤ 2 * (S 1020 0) ∧ (S 1044 0) ≤ (S 1023 0) ∧ (S 1045 0) ≤ (S 1023 0)) ∧ (S 1021 0) = 0 ∧ 1 ≤ (S 1023 0) ∧ (S 1044 0) + 1 ≤ (S 1023 0) ∧ (S 1045 0) + 1 ≤ (S 1023 0) ∧ (S 1031 0) ≤ 3 * (S 1023 0) + 2 ∧ 1 ≤ (S 6 (S 1020 0)) ∧ (S 6 (S 1020 0)) ≤ 5) → (30 * (20 - (S 1023 0)) + 29) = d → sv_T sm_XS sm_cs sm_L sm_sh (30 * (20 - (S 1023 0)) + 29).toNat (q_cases S) 81 0 (lv_args 0 [.ref 0]) [] S
def P_P (d : Int) : Prop := T_expression d ∧ T_opened d ∧ T_assigned d ∧ T_conditional d ∧ T_binary d ∧ T_unit d ∧ T_postfix d ∧ T_left d ∧ T_fresh d ∧ T_member d ∧ T_arguments d ∧ T_items d ∧ T_primary d ∧ T_bracketed d ∧ T_pairs d ∧ T_function d ∧ T_parts d ∧ T_statement d ∧ T_statementBody d ∧ T_plain d ∧ T_block d ∧ T_declarations d ∧ T_condition d ∧ T_looped d ∧ T_whether d ∧ T_until d ∧ T_counted d ∧ T_each d ∧ T_back_ d ∧ T_toss d ∧ T_attempt d ∧ T_cases d
theorem la_expression_0 {x0 : Int} (h0 : 0 ≤ x0) (h1 : x0 ≤ 1) : 0 ≤ x0 ∧ x0 ≤ 1 := by omega
theorem la_expression_1 {x0 x1 x2 x3 x4 x5 x6 x7 x8 x9 : Int} (h0 : 0 ≤ x0) (h1 : x0 < x1) (h2 : x1 = x2) (h3 : x2 ≤ 1 + x3) (h4 : 0 ≤ x4) (h5 : 0 ≤ x5) (h6 : 0 ≤ x6) (h7 : 0 ≤ x7) (h8 : 0 ≤ x8) (h9 : x8 ≤ 20) (h10 : x4 ≤ 3 * x8 + 5) (h11 : x7 ≤ 2 * x3) (h12 : x5 ≤ x8) (h13 : x6 ≤ x8) : 0 ≤ x0 ∧ x0 < x1 ∧ x1 = x2 ∧ x2 ≤ 1 + x3 ∧ 0 ≤ x4 ∧ x4 ≤ 100 ∧ 0 ≤ x5 ∧ x5 ≤ 30 ∧ 0 ≤ x6 ∧ x6 ≤ 30 ∧ 0 ≤ x7 ∧ (x9 = 0 → 0 ≤ x8 ∧ x8 ≤ 20 ∧ x4 ≤ 3 * x8 + 5 ∧ x7 ≤ 2 * x3 ∧ x5 ≤ x8 ∧ x6 ≤ x8) := by omega
theorem la_expression_2 {x0 : Int} (h0 : x0 = 0) : ¬ 0 < x0 := by omega
theorem la_expression_3 {x0 x1 : Int} (h0 : x0 ≤ 20) (h1 : x1 = 30 * (20 - x0) + 25) : 0 ≤ x1 := by omega
theorem la_expression_4 {x0 x1 x2 : Int} (h0 : 30 * (20 - x0) + 26 = x1) (h1 : x2 = 30 * (20 - x0) + 25) : x2 < x1 := by omega
theorem la_expression_5 {x0 x1 : Int} (h0 : x0 = 30 * (20 - x1) + 25) : x0 + 1 ≤ 30 * (20 - x1) + 26 := by omega
theorem la_expression_6 {x0 x1 : Int} (h0 : 0 ≤ x0) (h1 : x0 ≤ x1) : 0 ≤ x1 := by omega
theorem la_expression_7 {x0 x1 : Int} (h0 : 1 ≤ x0) (h1 : x0 ≤ x1) : 1 ≤ x1 := by omega
theorem la_expression_8 {x0 x1 x2 x3 : Int} (h0 : x0 < x1) (h1 : x1 = x2) (h2 : x3 = x0) : x3 < x2 := by omega
theorem la_expression_9 {x0 x1 x2 : Int} (h0 : x0 = 0) (h1 : x1 = x2) (h2 : x2 = x0) : x1 = 0 := by omega
theorem la_expression_10 {x0 x1 : Int} (h0 : (-1) ≤ x0) (h1 : x1 = x0) : (-1) ≤ x1 := by omega
theorem la_expression_11 {x0 x1 x2 x3 : Int} (h0 : x0 < x1) (h1 : x2 = x0) (h2 : x1 ≤ x3) : x2 < x3 := by omega
theorem la_expression_12 {x0 x1 : Int} (h0 : 0 ≤ x0) (h1 : x1 = x0) : 0 ≤ x1 := by omega
theorem la_expression_13 {x0 x1 x2 x3 x4 x5 : Int} (h0 : x0 < x1) (h1 : x1 = x2) (h2 : x3 = x0) (h3 : x2 ≤ x4) (h4 : x5 = x4) : x3 < x5 := by omega
theorem la_expression_14 {x0 x1 x2 : Int} (h0 : x0 ≤ 20) (h1 : x1 ≤ 3 * x0 + 5) (h2 : x2 = x1) : x2 ≤ 100 := by omega
theorem la_expression_15 {x0 x1 x2 : Int} (h0 : x0 ≤ 20) (h1 : x1 ≤ x0) (h2 : x2 = x1) : x2 ≤ 30 := by omega
theorem la_expression_16 {x0 x1 x2 x3 x4 x5 x6 x7 x8 x9 x10 x11 x12 : Int} (h0 : 0 ≤ x0) (h1 : x0 ≤ 20) (h2 : x1 ≤ 3 * x0 + 5) (h3 : x2 ≤ 2 * x3) (h4 : x4 ≤ x0) (h5 : x5 ≤ x0) (h6 : 0 ≤ x6) (h7 : x7 = x1) (h8 : x8 = x4) (h9 : x9 = x5) (h10 : x6 = 0 → x10 = x0 ∧ x11 + 1 ≤ x2 + 2 * (x12 - x3)) : x6 = 0 → 0 ≤ x10 ∧ x10 ≤ 20 ∧ x7 ≤ 3 * x10 + 5 ∧ x11 ≤ 2 * x12 ∧ x8 ≤ x10 ∧ x9 ≤ x10 := by omega
theorem la_expression_17 {x0 x1 x2 x3 x4 x5 x6 : Int} (h0 : 0 < x0 → x1 ≤ x2 + 2 * (x3 - x4) + 2 * x5) (h1 : x5 = 30 * (20 - x6) + 25) : 0 < x0 → x1 ≤ x2 + 2 * (x3 - x4) + 2 * (30 * (20 - x6) + 26) := by omega
theorem la_expression_18 {x0 x1 x2 : Int} (h0 : x0 < x1) (h1 : 0 ≤ x2) : 0 ≤ 2 * (x1 - x0) + x2 := by omega
theorem la_expression_19 {x0 : Int} (h0 : 0 ≤ x0) (h1 : ¬ x0 = 0) : 0 < x0 := by omega
theorem la_expression_20 {x0 : Int} (h0 : 0 < x0) (h1 : x0 = 0) : False := by omega
theorem la_expression_21 {x0 : Int} (h0 : ¬ ¬ x0 = 0) : x0 = 0 := by omega
theorem la_expression_22 {x0 : Int} (h0 : ¬ ¬ x0 = 0) : ¬ 0 < x0 := by omega
theorem la_expression_23 {x0 : Int} (h0 : 0 ≤ x0) (h1 : ¬ ¬ x0 = 0) : x0 = 0 := by omega
theorem la_expression_24 {x0 x1 x2 : Int} (h0 : 0 ≤ x0) (h1 : x1 ≤ 4001) (h2 : x2 < x1) (h3 : x0 < x2) : 0 ≤ x2 ∧ x2 ≤ 4000 := by omega
theorem la_expression_25 {x0 : Int} (h0 : x0 ≤ 20) : 0 + 1 ≤ 30 * (20 - x0) + 26 := by omega
theorem la_expression_26 {x0 x1 : Int} (h0 : x0 ≤ 4001) (h1 : 0 ≤ x1) (h2 : x1 < x0) : sv_R (x1 + 1) := by omega
theorem la_expression_27 {x0 x1 : Int} (h0 : 0 ≤ x0) (h1 : x0 < x1) : 0 ≤ x1 + 1 := by omega
theorem la_expression_28 {x0 : Int} (h0 : x0 = 5) : 1 ≤ x0 := by omega
theorem la_expression_29 {x0 : Int} (h0 : x0 = 5) : x0 ≤ 5 := by omega
theorem la_expression_30 {x0 x1 : Int} (h0 : x0 ≤ 1 + x1) : x0 ≤ 1 + (x1 + 1) := by omega
theorem la_expression_31 {x0 x1 : Int} (h0 : x0 ≤ 2 * x1) : x0 ≤ 2 * (x1 + 1) := by omega
theorem la_expression_32 {x0 x1 x2 x3 : Int} (h0 : 30 * (20 - x0) + 26 = x1) (h1 : x2 = x0) (h2 : x3 = 30 * (20 - x2) + 25) : x3 < x1 := by omega
theorem la_expression_33 {x0 x1 x2 : Int} (h0 : x0 = x1) (h1 : x2 = 30 * (20 - x0) + 25) : x2 + 1 ≤ 30 * (20 - x1) + 26 := by omega
theorem la_expression_34 {x0 x1 x2 : Int} (h0 : 0 ≤ x0) (h1 : x0 < x1) (h2 : x1 ≤ x2) : 0 ≤ x2 := by omega
theorem la_expression_35 {x0 x1 x2 x3 x4 x5 x6 x7 x8 : Int} (h0 : x0 ≤ 4001) (h1 : 0 ≤ x1) (h2 : x2 ≤ 2 * x3) (h3 : x4 < x0) (h4 : 0 ≤ x5) (h5 : x5 = 0 → x6 = x1 ∧ x7 + 1 ≤ x2 + 2 * (x4 - (x3 + 1))) (h6 : 0 < x5 → x7 ≤ x2 + 2 * (x4 - (x3 + 1)) + 2 * x8) (h7 : x8 = 30 * (20 - x1) + 25) : x7 < 12000 := by omega
theorem la_expression_36 {x0 : Int} (h0 : 0 ≤ x0) (h1 : x0 ≤ 20) : sv_R (17 * (20 - x0) + 17) := by omega
theorem la_expression_37 {x0 : Int} (h0 : 0 ≤ x0) (h1 : x0 ≤ 20) : sv_R (20 - x0) := by omega
theorem la_expression_38 {x0 x1 x2 : Int} (h0 : 0 ≤ x0) (h1 : x0 < x1) (h2 : x1 + 1 ≤ x2) : 0 ≤ x2 := by omega
theorem la_expression_39 {x0 x1 x2 x3 : Int} : (3 : Int) = 20 → x0 = (-1) ∨ 0 ≤ x0 ∧ x0 < x1 ∧ x2 = x3 := by omega
theorem la_expression_40 {x0 x1 x2 x3 x4 : Int} : (3 : Int) = 24 → (x0 = (-1) ∨ 0 ≤ x0 ∧ x0 < x1 ∧ x2 = x3) ∧ ((0 : Int) = (-1) ∨ (0 : Int) ≤ 0 ∧ 0 < x1 ∧ x4 = x3) := by omega
theorem la_expression_41 {x0 x1 x2 x3 : Int} : (3 : Int) = 25 ∨ (3 : Int) = 26 → x0 = (-1) ∨ 0 ≤ x0 ∧ x0 < x1 ∧ x2 = x3 := by omega
theorem la_expression_42 {x0 x1 x2 : Int} (h0 : x0 = x1) (h1 : 0 ≤ x2) (h2 : x2 < x1) : 0 ≤ x0 := by omega
theorem la_expression_43 {x0 x1 x2 x3 : Int} : (3 : Int) = 27 → x0 = (-1) ∨ 0 ≤ x0 ∧ x0 < x1 ∧ x2 = x3 := by omega
theorem la_expression_44 {x0 x1 x2 : Int} (h0 : x0 = x1) (h1 : x2 = x1 + 1) : x0 < x2 := by omega
theorem la_expression_45 {x0 x1 x2 : Int} : (3 : Int) = 28 → (0 : Int) = (-1) ∨ (0 : Int) ≤ 0 ∧ 0 < x0 ∧ x1 = x2 := by omega
theorem la_expression_46 {x0 : Int} : (3 : Int) = 33 → x0 = (-1) ∧ (0 : Int) = (-1) := by omega
theorem la_expression_47 {x0 : Int} : (3 : Int) = 34 ∨ (3 : Int) = 35 → x0 = (-1) := by omega
theorem la_expression_48 {x0 x1 x2 : Int} (h0 : x0 ≤ x1) (h1 : x2 = x1 + 1) : x0 ≤ x2 := by omega
theorem la_expression_49 {x0 x1 x2 x3 x4 : Int} (h0 : x0 < x1) (h1 : x1 ≤ x2) (h2 : x3 = x2) (h3 : x4 = x0) : x4 < x3 := by omega
theorem la_expression_50 {x0 x1 : Int} (h0 : x0 = x1) : 17 * (20 - x0) + 17 ≤ 17 * (20 - x1) + 17 := by omega
theorem la_expression_51 {x0 x1 : Int} (h0 : x0 = x1) : 20 - x0 ≤ 20 - x1 := by omega
theorem la_expression_52 {x0 x1 : Int} (h0 : x0 = x1 + 1) : x1 ≤ x0 := by omega
theorem la_expression_53 {x0 : Int} (h0 : x0 ≤ 20) : 0 ≤ 17 * (20 - x0) + 17 := by omega
theorem la_expression_54 {x0 : Int} (h0 : x0 ≤ 20) : 0 ≤ 20 - x0 := by omega
theorem la_expression_55 {x0 x1 x2 x3 : Int} (h0 : x0 = x1) (h1 : x2 = x3) (h2 : x3 < x1) : x2 < x0 := by omega
theorem la_expression_56 {x0 x1 x2 x3 x4 : Int} (h0 : x0 < x1) (h1 : x1 = x2) (h2 : x3 = x0) (h3 : x4 = x3) : x4 < x2 := by omega
theorem la_expression_57 {x0 x1 x2 : Int} (h0 : x0 < x1) (h1 : x2 + 1 < x0) : x2 + 1 < x1 := by omega
theorem la_expression_58 {x0 x1 : Int} (h0 : x0 = x1) : ¬ x0 < x1 := by omega
theorem la_expression_59 {x0 x1 x2 : Int} (h0 : x0 = x1) (h1 : x2 = x0) : x2 = x1 := by omega
theorem la_expression_60 {x0 x1 x2 x3 x4 : Int} (h0 : x0 < x1) (h1 : x2 = x0) (h2 : x1 ≤ x3) (h3 : x4 = x3 + 1) : x2 < x4 := by omega
theorem la_expression_61 {x0 x1 x2 : Int} (h0 : 0 ≤ x0) (h1 : x0 ≤ x1) (h2 : x2 = x1 + 1) : 0 ≤ x2 := by omega
theorem la_expression_62 {x0 x1 x2 x3 x4 x5 x6 x7 x8 x9 x10 x11 x12 x13 x14 x15 : Int} (h0 : x0 ≤ 2 * x1) (h1 : 0 ≤ x2) (h2 : x2 ≤ 20) (h3 : x3 ≤ 3 * x2 + 5) (h4 : x4 ≤ x2) (h5 : x5 ≤ x2) (h6 : x6 + 1 ≤ x0 + 2 * (x7 - x1)) (h7 : 0 ≤ x8) (h8 : x9 = x3) (h9 : x10 = x4) (h10 : x11 = x5) (h11 : x8 = 0 → x12 = x2 ∧ x13 + 1 ≤ x6 + 2 * (x14 - (x7 + 1))) (h12 : x15 = x13 + 1) : x8 = 0 → 0 ≤ x12 ∧ x12 ≤ 20 ∧ x9 ≤ 3 * x12 + 5 ∧ x15 ≤ 2 * x14 ∧ x10 ≤ x12 ∧ x11 ≤ x12 := by omega
theorem la_expression_63 {x0 x1 x2 : Int} (h0 : x0 < x1) (h1 : x1 + 1 ≤ x2) : x0 ≤ x2 := by omega
theorem la_expression_64 {x0 x1 : Int} (h0 : x0 = 0) : 0 < x0 → 0 < x1 := by omega
theorem la_expression_65 {x0 x1 x2 : Int} (h0 : x0 ≤ x1) (h1 : x1 ≤ x2) : x0 ≤ x2 := by omega
theorem la_expression_66 {x0 x1 x2 : Int} (h0 : x0 = 1 → x1 = 1) (h1 : x1 = 1 → x2 = 1) : x0 = 1 → x2 = 1 := by omega
theorem la_expression_67 {x0 x1 x2 x3 : Int} (h0 : x0 ≤ x1) (h1 : x1 ≤ x2) (h2 : x3 = x2) : x0 ≤ x3 := by omega
theorem la_expression_68 {x0 x1 : Int} (h0 : x0 ≤ x1) : 8 * x0 ≤ 8 * x1 := by omega
theorem la_expression_69 {x0 x1 : Int} (h0 : x0 = x1) : x1 ≤ x0 := by omega
theorem la_expression_70 {x0 x1 x2 x3 : Int} (h0 : x0 ≤ x1) (h1 : x1 ≤ x2) (h2 : x3 = x2 + 1) : x0 ≤ x3 := by omega
theorem la_expression_71 {x0 x1 x2 x3 x4 x5 x6 x7 x8 x9 x10 : Int} (h0 : x0 = x1) (h1 : x2 + 1 ≤ x3 + 2 * (x4 - x5)) (h2 : x6 = 0 → x7 = x0 ∧ x8 + 1 ≤ x2 + 2 * (x9 - (x4 + 1))) (h3 : x10 = x8 + 1) : x6 = 0 → x7 = x1 ∧ x10 + 1 ≤ x3 + 2 * (x9 - x5) := by omega
theorem la_expression_72 {x0 x1 x2 x3 x4 x5 x6 x7 x8 x9 x10 x11 : Int} (h0 : x0 ≤ 20) (h1 : x1 = x0) (h2 : x2 + 1 ≤ x3 + 2 * (x4 - x5)) (h3 : x6 = 0 → x7 = x1 ∧ x8 + 1 ≤ x2 + 2 * (x9 - (x4 + 1))) (h4 : 0 < x6 → x8 ≤ x2 + 2 * (x9 - (x4 + 1)) + 2 * x10) (h5 : x10 = 30 * (20 - x1) + 25) (h6 : x11 = x8 + 1) : 0 < x6 → x11 ≤ x3 + 2 * (x9 - x5) + 2 * (30 * (20 - x0) + 26) := by omega
theorem la_expression_73 {x0 x1 x2 : Int} (h0 : 0 ≤ x0) (h1 : x0 ≤ x1) (h2 : x2 = x1) : (-1) ≤ x2 := by omega
theorem la_expression_74 {x0 x1 x2 x3 x4 x5 x6 x7 x8 x9 : Int} (h0 : x0 ≤ 4001) (h1 : 0 ≤ x1) (h2 : x2 ≤ 2 * x3) (h3 : x4 < x0) (h4 : 0 ≤ x5) (h5 : x5 = 0 → x6 = x1 ∧ x7 + 1 ≤ x2 + 2 * (x4 - (x3 + 1))) (h6 : 0 < x5 → x7 ≤ x2 + 2 * (x4 - (x3 + 1)) + 2 * x8) (h7 : x8 = 30 * (20 - x1) + 25) (h8 : x9 = x7) : x9 < 12000 := by omega
theorem la_expression_75 {x0 x1 x2 : Int} (h0 : x0 < x1) (h1 : x1 + 1 < x2) : x0 < x2 := by omega
theorem la_expression_76 : (1 : Int) = 1 := by omega
theorem la_expression_77 {x0 : Int} : 17 * (20 - x0) + 17 ≤ 17 * (20 - x0) + 17 := by omega
theorem la_expression_78 {x0 : Int} : 20 - x0 ≤ 20 - x0 := by omega
theorem la_expression_79 {x0 : Int} (h0 : x0 = 3) : ¬ x0 = 2 := by omega
theorem la_expression_80 {x0 x1 : Int} (h0 : 0 ≤ x0) (h1 : x0 < x1) : 0 ≤ x1 := by omega
theorem la_expression_81 {x0 x1 x2 : Int} (h0 : x0 < x1) (h1 : x1 ≤ x2) : x0 < x2 := by omega
theorem la_expression_82 {x0 x1 x2 x3 : Int} (h0 : x0 < x1) (h1 : x1 ≤ x2) (h2 : x3 = x0) : x3 < x2 := by omega
theorem la_expression_83 {x0 x1 x2 : Int} (h0 : x0 < x1) (h1 : x2 = x0) : x2 < x1 := by omega
theorem la_expression_84 {x0 : Int} : x0 = x0 := by omega
theorem la_expression_85 {x0 x1 : Int} (h0 : x0 = x1) : x1 = x0 := by omega
theorem la_expression_86 {x0 x1 : Int} (h0 : x0 = x1) : 5 * x1 = 5 * x0 := by omega
theorem la_expression_87 {x0 x1 : Int} (h0 : x0 = x1) : 5 * x1 + 1 = 5 * x0 + 1 := by omega
theorem la_expression_88 {x0 x1 : Int} (h0 : x0 = x1) : 5 * x1 + 2 = 5 * x0 + 2 := by omega
theorem la_expression_89 {x0 x1 : Int} (h0 : x0 = x1) : 5 * x1 + 3 = 5 * x0 + 3 := by omega
theorem la_expression_90 {x0 x1 : Int} (h0 : x0 = x1) : 5 * x1 + 4 = 5 * x0 + 4 := by omega
theorem la_expression_91 {x0 : Int} (h0 : x0 = 3) (h1 : x0 = 7) : False := by omega
theorem la_expression_92 {x0 x1 x2 x3 x4 : Int} (h0 : x0 + 1 ≤ x1) (h1 : x2 = 1) (h2 : x3 ≤ 1) : 2 * (x4 - x1) + x3 < 2 * (x4 - x0) + x2 := by omega
set_option maxHeartbeats 8000000 in
theorem f_expression : ∀ (d : Int) (p1 : Int) (S : sv_S), sm_ok S → (0 ≤ p1 ∧ p1 ≤ 1) → (0 ≤ (S 1020 0) ∧ (S 1020 0) < (S 1012 0) ∧ sm_TK (S 6) (S 8) (S 9) (S 10) (S 1012 0) ∧ 0 ≤ (S 1021 0) ∧ 0 ≤ (S 1004 0) ∧ (S 1004 0) ≤ 4000 ∧ 1 ≤ (S 1007 0) ∧ (S 1007 0) ≤ 90 ∧ sm_LN (S 4) 400 (S 1007 0) ∧ ((S 1021 0) = 0 → sm_WF (S 11) (S 12) (S 13) (S 1100001) (S 1100002) (S 1100005) (S 1100003) (S 1100004) (S 1024 0) (S 1007 0) (S 1009 0) (sm_fn (S 1032 0) (S 21) (S 1043 0)) ∧ sm_FT (S 11) (S 12) (S 13) (S 1100019) (S 17) (S 18) (S 21) (S 19) (S 20) (S 22) (S 1100016) (S 1024 0) (S 1007 0) (S 1009 0) (S 1032 0) (S 1032 0) ∧ sm_WG (S 1100001) (S 1100019) (S 1043 0) ∧ (S 1100016 (S 1043 0)) = 0 ∧ sm_RG (S 11) (S 12) (S 13) (S 1100035) (S 1024 0)) ∧ -1 ≤ (S 1100036 0) ∧ (S 1100036 0) < (S 1024 0) ∧ sm_HD (S 23) (S 24) (S 1100018 0) (S 1007 0) ∧ sm_HD (S 25) (fun _ : Int => (S 1042 0)) 1 (S 1007 0) ∧ 0 ≤ (S 1043 0) ∧ (S 1043 0) < (S 1100018 0) ∧ (S 1100018 0) = (S 1032 0) ∧ (S 1032 0) ≤ 1 + (S 1020 0) ∧ 0 ≤ (S 1031 0) ∧ (S 1031 0) ≤ 100 ∧ 0 ≤ (S 1044 0) ∧ (S 1044 0) ≤ 30 ∧ 0 ≤ (S 1045 0) ∧ (S 1045 0) ≤ 30 ∧ 0 ≤ (S 1024 0) ∧ ((S 1021 0) = 0 → 0 ≤ (S 1023 0) ∧ (S 1023 0) ≤ 20 ∧ (S 1031 0) ≤ 3 * (S 1023 0) + 5 ∧ (S 1024 0) ≤ 2 * (S 1020 0) ∧ (S 1044 0) ≤ (S 1023 0) ∧ (S 1045 0) ≤ (S 1023 0)) ∧ (S 1021 0) = 0) → (30 * (20 - (S 1023 0)) + 26) = d → (0 ≤ p1 ∧ p1 ≤ 1) ∧ (0 ≤ (S 1020 0) ∧ (S 1020 0) < (S 1012 0) ∧ sm_TK (S 6) (S 8) (S 9) (S 10) (S 1012 0) ∧ 0 ≤ (S 1021 0) ∧ 0 ≤ (S 1004 0) ∧ (S 1004 0) ≤ 4000 ∧ 1 ≤ (S 1007 0) ∧ (S 1007 0) ≤ 90 ∧ sm_LN (S 4) 400 (S 1007 0) ∧ ((S 1021 0) = 0 → sm_WF (S 11) (S 12) (S 13) (S 1100001) (S 1100002) (S 1100005) (S 1100003) (S 1100004) (S 1024 0) (S 1007 0) (S 1009 0) (sm_fn (S 1032 0) (S 21) (S 1043 0)) ∧ sm_FT (S 11) (S 12) (S 13) (S 1100019) (S 17) (S 18) (S 21) (S 19) (S 20) (S 22) (S 1100016) (S 1024 0) (S 1007 0) (S 1009 0) (S 1032 0) (S 1032 0) ∧ sm_WG (S 1100001) (S 1100019) (S 1043 0) ∧ (S 1100016 (S 1043 0)) = 0 ∧ sm_RG (S 11) (S 12) (S 13) (S 1100035) (S 1024 0)) ∧ -1 ≤ (S 1100036 0) ∧ (S 1100036 0) < (S 1024 0) ∧ sm_HD (S 23) (S 24) (S 1100018 0) (S 1007 0) ∧ sm_HD (S 25) (fun _ : Int => (S 1042 0)) 1 (S 1007 0) ∧ 0 ≤ (S 1043 0) ∧ (S 1043 0) < (S 1100018 0) ∧ (S 1100018 0) = (S 1032 0) ∧ (S 1032 0) ≤ 1 + (S 1020 0) ∧ 0 ≤ (S 1031 0) ∧ (S 1031 0) ≤ 100 ∧ 0 ≤ (S 1044 0) ∧ (S 1044 0) ≤ 30 ∧ 0 ≤ (S 1045 0) ∧ (S 1045 0) ≤ 30 ∧ 0 ≤ (S 1024 0) ∧ ((S 1021 0) = 0 → 0 ≤ (S 1023 0) ∧ (S 1023 0) ≤ 20 ∧ (S 1031 0) ≤ 3 * (S 1023 0) + 5 ∧ (S 1024 0) ≤ 2 * (S 1020 0) ∧ (S 1044 0) ≤ (S 1023 0) ∧ (S 1045 0) ≤ (S 1023 0))) ∧ (0 ≤ ((if 0 < (S 1021 0) then 12 else 30 * (20 - (S 1023 0)) + 25)) ∧ ((if 0 < (S 1021 0) then 12 else 30 * (20 - (S 1023 0)) + 25)) < d) ∧ (0 ≤ ((if 0 < (S 1021 0) then 12 else 30 * (20 - (S 1023 0)) + 25)) ∧ ((if 0 < (S 1021 0) then 12 else 30 * (20 - (S 1023 0)) + 25)) + 1 ≤ (30 * (20 - (S 1023 0)) + 26)) ∧ (∀ r9 : Int, sv_R r9 → ∀ g5 : sv_S, ((S 1020 0) ≤ (g5 1020 0) ∧ (g5 1020 0) < (S 1012 0) ∧ 0 ≤ (g5 1021 0) ∧ (0 < (S 1021 0) → 0 < (g5 1021 0)) ∧ (S 1007 0) ≤ (g5 1007 0) ∧ (g5 1007 0) ≤ 90 ∧ sm_LN (g5 4) 400 (g5 1007 0) ∧ ((S 1009 0) = 1 → (g5 1009 0) = 1) ∧ ((g5 1021 0) = 0 → sm_WF (g5 11) (g5 12) (g5 13) (g5 1100001) (g5 1100002) (g5 1100005) (g5 1100003) (g5 1100004) (g5 1024 0) (g5 1007 0) (g5 1009 0) (sm_fn (g5 1032 0) (g5 21) (g5 1043 0)) ∧ sm_PX (S 11) (S 12) (S 13) (S 1100001) (S 1100002) (S 1100005) (S 1100003) (S 1100004) (g5 11) (g5 12) (g5 13) (g5 1100001) (g5 1100002) (g5 1100005) (g5 1100003) (g5 1100004) (S 1024 0) ∧ sm_FT (g5 11) (g5 12) (g5 13) (g5 1100019) (g5 17) (g5 18) (g5 21) (g5 19) (g5 20) (g5 22) (g5 1100016) (g5 1024 0) (g5 1007 0) (g5 1009 0) (g5 1032 0) (g5 1032 0) ∧ sm_WG (g5 1100001) (g5 1100019) (g5 1043 0) ∧ sm_F1 (S 1100019) (g5 1100019) (S 1024 0) ∧ sm_F1 (S 1100035) (g5 1100035) (S 1024 0) ∧ sm_F1 (S 17) (g5 17) (S 1032 0) ∧ sm_F1 (S 18) (g5 18) (S 1032 0) ∧ sm_F1 (S 21) (g5 21) (S 1032 0) ∧ sm_F1 (S 20) (g5 20) (S 1032 0) ∧ sm_F1 (S 22) (g5 22) (S 1032 0) ∧ sm_F1 (S 1100016) (g5 1100016) (S 1032 0) ∧ sm_F1 (S 19) (g5 19) (8 * (S 1032 0)) ∧ sm_FN (g5 1100016) (S 1032 0) (g5 1032 0) ∧ sm_RG (g5 11) (g5 12) (g5 13) (g5 1100035) (g5 1024 0)) ∧ (g5 1100036 0) = (S 1100036 0) ∧ sm_KL (S 15) (S 16) (g5 15) (g5 16) (S 1031 0) ∧ sm_HD (g5 23) (g5 24) (g5 1100018 0) (g5 1007 0) ∧ sm_HD (g5 25) (fun _ : Int => (g5 1042 0)) 1 (g5 1007 0) ∧ (g5 1031 0) = (S 1031 0) ∧ (g5 1043 0) = (S 1043 0) ∧ (g5 1044 0) = (S 1044 0) ∧ (g5 1045 0) = (S 1045 0) ∧ (S 1032 0) ≤ (g5 1032 0) ∧ (g5 1032 0) ≤ 1 + (g5 1020 0) ∧ (g5 1100018 0) = (g5 1032 0) ∧ (S 1024 0) ≤ (g5 1024 0) ∧ ((g5 1021 0) = 0 → (g5 1023 0) = (S 1023 0) ∧ (g5 1024 0) + 1 ≤ (S 1024 0) + 2 * ((g5 1020 0) - (S 1020 0))) ∧ (0 < (g5 1021 0) → (g5 1024 0) ≤ (S 1024 0) + 2 * ((g5 1020 0) - (S 1020 0)) + 2 * ((if 0 < (S 1021 0) then 12 else 30 * (20 - (S 1023 0)) + 25))) ∧ -1 ≤ r9 ∧ r9 < 12000 ∧ ((g5 1021 0) = 0 → (S 1020 0) < (g5 1020 0) ∧ 1 ≤ (S 6 (S 1020 0)) ∧ sm_ex (g5 1100001) (g5 1100002) (g5 1100005) (g5 1024 0) 1 r9 (17 * (20 - (S 1023 0)) + 17) (20 - (S 1023 0)) ∧ ((g5 11 r9) = 2 ∨ (g5 11 r9) = 7 → (g5 1100002 r9) ≤ 17 * (20 - (S 1023 0)) + 2)) ∧ (0 < (S 1021 0) → (g5 1020 0) = (S 1020 0) ∧ (g5 1024 0) = (S 1024 0))) → ((0 ≤ (g5 1020 0) ∧ (g5 1020 0) < (S 1012 0) ∧ sm_TK (S 6) (S 8) (S 9) (S 10) (S 1012 0) ∧ 0 ≤ (g5 1021 0) ∧ 0 ≤ (S 1004 0) ∧ (S 1004 0) ≤ 4000 ∧ 1 ≤ (g5 1007 0) ∧ (g5 1007 0) ≤ 90 ∧ sm_LN (g5 4) 400 (g5 1007 0) ∧ ((g5 1021 0) = 0 → sm_WF (g5 11) (g5 12) (g5 13) (g5 1100001) (g5 1100002) (g5 1100005) (g5 1100003) (g5 1100004) (g5 1024 0) (g5 1007 0) (g5 1009 0) (sm_fn (g5 1032 0) (g5 21) (g5 1043 0)) ∧ sm_FT (g5 11) (g5 12) (g5 13) (g5 1100019) (g5 17) (g5 18) (g5 21) (g5 19) (g5 20) (g5 22) (g5 1100016) (g5 1024 0) (g5 1007 0) (g5 1009 0) (g5 1032 0) (g5 1032 0) ∧ sm_WG (g5 1100001) (g5 1100019) (g5 1043 0) ∧ (g5 1100016 (g5 1043 0)) = 0 ∧ sm_RG (g5 11) (g5 12) (g5 13) (g5 1100035) (g5 1024 0)) ∧ -1 ≤ (g5 1100036 0) ∧ (g5 1100036 0) < (g5 1024 0) ∧ sm_HD (g5 23) (g5 24) (g5 1100018 0) (g5 1007 0) ∧ sm_HD (g5 25) (fun _ : Int => (g5 1042 0)) 1 (g5 1007 0) ∧ 0 ≤ (g5 1043 0) ∧ (g5 1043 0) < (g5 1100018 0) ∧ (g5 1100018 0) = (g5 1032 0) ∧ (g5 1032 0) ≤ 1 + (g5 1020 0) ∧ 0 ≤ (g5 1031 0) ∧ (g5 1031 0) ≤ 100 ∧ 0 ≤ (g5 1044 0) ∧ (g5 1044 0) ≤ 30 ∧ 0 ≤ (g5 1045 0) ∧ (g5 1045 0) ≤ 30 ∧ 0 ≤ (g5 1024 0) ∧ ((g5 1021 0) = 0 → 0 ≤ (g5 1023 0) ∧ (g5 1023 0) ≤ 20 ∧ (g5 1031 0) ≤ 3 * (g5 1023 0) + 5 ∧ (g5 1024 0) ≤ 2 * (g5 1020 0) ∧ (g5 1044 0) ≤ (g5 1023 0) ∧ (g5 1045 0) ≤ (g5 1023 0)) ∧ (S 1020 0) ≤ (g5 1020 0) ∧ (g5 1020 0) < (S 1012 0) ∧ 0 ≤ (g5 1021 0) ∧ (0 < (S 1021 0) → 0 < (g5 1021 0)) ∧ (S 1007 0) ≤ (g5 1007 0) ∧ (g5 1007 0) ≤ 90 ∧ sm_LN (g5 4) 400 (g5 1007 0) ∧ ((S 1009 0) = 1 → (g5 1009 0) = 1) ∧ ((g5 1021 0) = 0 → sm_WF (g5 11) (g5 12) (g5 13) (g5 1100001) (g5 1100002) (g5 1100005) (g5 1100003) (g5 1100004) (g5 1024 0) (g5 1007 0) (g5 1009 0) (sm_fn (g5 1032 0) (g5 21) (g5 1043 0)) ∧ sm_PX (S 11) (S 12) (S 13) (S 1100001) (S 1100002) (S 1100005) (S 1100003) (S 1100004) (g5 11) (g5 12) (g5 13) (g5 1100001) (g5 1100002) (g5 1100005) (g5 1100003) (g5 1100004) (S 1024 0) ∧ sm_FT (g5 11) (g5 12) (g5 13) (g5 1100019) (g5 17) (g5 18) (g5 21) (g5 19) (g5 20) (g5 22) (g5 1100016) (g5 1024 0) (g5 1007 0) (g5 1009 0) (g5 1032 0) (g5 1032 0) ∧ sm_WG (g5 1100001) (g5 1100019) (g5 1043 0) ∧ sm_F1 (S 1100019) (g5 1100019) (S 1024 0) ∧ sm_F1 (S 1100035) (g5 1100035) (S 1024 0) ∧ sm_F1 (S 17) (g5 17) (S 1032 0) ∧ sm_F1 (S 18) (g5 18) (S 1032 0) ∧ sm_F1 (S 21) (g5 21) (S 1032 0) ∧ sm_F1 (S 20) (g5 20) (S 1032 0) ∧ sm_F1 (S 22) (g5 22) (S 1032 0) ∧ sm_F1 (S 1100016) (g5 1100016) (S 1032 0) ∧ sm_F1 (S 19) (g5 19) (8 * (S 1032 0)) ∧ sm_FN (g5 1100016) (S 1032 0) (g5 1032 0) ∧ sm_RG (g5 11) (g5 12) (g5 13) (g5 1100035) (g5 1024 0)) ∧ (g5 1100036 0) = (S 1100036 0) ∧ sm_KL (S 15) (S 16) (g5 15) (g5 16) (S 1031 0) ∧ sm_HD (g5 23) (g5 24) (g5 1100018 0) (g5 1007 0) ∧ sm_HD (g5 25) (fun _ : Int => (g5 1042 0)) 1 (g5 1007 0) ∧ (g5 1031 0) = (S 1031 0) ∧ (g5 1043 0) = (S 1043 0) ∧ (g5 1044 0) = (S 1044 0) ∧ (g5 1045 0) = (S 1045 0) ∧ (S 1032 0) ≤ (g5 1032 0) ∧ (g5 1032 0) ≤ 1 + (g5 1020 0) ∧ (g5 1100018 0) = (g5 1032 0) ∧ (S 1024 0) ≤ (g5 1024 0) ∧ ((g5 1021 0) = 0 → (g5 1023 0) = (S 1023 0) ∧ (g5 1024 0) + 1 ≤ (S 1024 0) + 2 * ((g5 1020 0) - (S 1020 0))) ∧ (0 < (g5 1021 0) → (g5 1024 0) ≤ (S 1024 0) + 2 * ((g5 1020 0) - (S 1020 0)) + 2 * (30 * (20 - (S 1023 0)) + 26)) ∧ -1 ≤ r9 ∧ r9 < 12000 ∧ ((g5 1021 0) = 0 → (S 1020 0) < (g5 1020 0) ∧ 1 ≤ (S 6 (S 1020 0)) ∧ sm_ex (g5 1100001) (g5 1100002) (g5 1100005) (g5 1024 0) 1 r9 (17 * (20 - (S 1023 0)) + 17) (20 - (S 1023 0)) ∧ ((g5 11 r9) = 2 ∨ (g5 11 r9) = 7 → (g5 1100002 r9) ≤ 17 * (20 - (S 1023 0)) + 2))) ∧ (∀ l2_12 : Int, sv_R l2_12 → ∀ g11 : sv_S, (0 ≤ (g11 1020 0) ∧ (g11 1020 0) < (S 1012 0) ∧ sm_TK (S 6) (S 8) (S 9) (S 10) (S 1012 0) ∧ 0 ≤ (g11 1021 0) ∧ 0 ≤ (S 1004 0) ∧ (S 1004 0) ≤ 4000 ∧ 1 ≤ (g11 1007 0) ∧ (g11 1007 0) ≤ 90 ∧ sm_LN (g11 4) 400 (g11 1007 0) ∧ ((g11 1021 0) = 0 → sm_WF (g11 11) (g11 12) (g11 13) (g11 1100001) (g11 1100002) (g11 1100005) (g11 1100003) (g11 1100004) (g11 1024 0) (g11 1007 0) (g11 1009 0) (sm_fn (g11 1032 0) (g11 21) (g11 1043 0)) ∧ sm_FT (g11 11) (g11 12) (g11 13) (g11 1100019) (g11 17) (g11 18) (g11 21) (g11 19) (g11 20) (g11 22) (g11 1100016) (g11 1024 0) (g11 1007 0) (g11 1009 0) (g11 1032 0) (g11 1032 0) ∧ sm_WG (g11 1100001) (g11 1100019) (g11 1043 0) ∧ (g11 1100016 (g11 1043 0)) = 0 ∧ sm_RG (g11 11) (g11 12) (g11 13) (g11 1100035) (g11 1024 0)) ∧ -1 ≤ (g11 1100036 0) ∧ (g11 1100036 0) < (g11 1024 0) ∧ sm_HD (g11 23) (g11 24) (g11 1100018 0) (g11 1007 0) ∧ sm_HD (g11 25) (fun _ : Int => (g11 1042 0)) 1 (g11 1007 0) ∧ 0 ≤ (g11 1043 0) ∧ (g11 1043 0) < (g11 1100018 0) ∧ (g11 1100018 0) = (g11 1032 0) ∧ (g11 1032 0) ≤ 1 + (g11 1020 0) ∧ 0 ≤ (g11 1031 0) ∧ (g11 1031 0) ≤ 100 ∧ 0 ≤ (g11 1044 0) ∧ (g11 1044 0) ≤ 30 ∧ 0 ≤ (g11 1045 0) ∧ (g11 1045 0) ≤ 30 ∧ 0 ≤ (g11 1024 0) ∧ ((g11 1021 0) = 0 → 0 ≤ (g11 1023 0) ∧ (g11 1023 0) ≤ 20 ∧ (g11 1031 0) ≤ 3 * (g11 1023 0) + 5 ∧ (g11 1024 0) ≤ 2 * (g11 1020 0) ∧ (g11 1044 0) ≤ (g11 1023 0) ∧ (g11 1045 0) ≤ (g11 1023 0)) ∧ (S 1020 0) ≤ (g11 1020 0) ∧ (g11 1020 0) < (S 1012 0) ∧ 0 ≤ (g11 1021 0) ∧ (0 < (S 1021 0) → 0 < (g11 1021 0)) ∧ (S 1007 0) ≤ (g11 1007 0) ∧ (g11 1007 0) ≤ 90 ∧ sm_LN (g11 4) 400 (g11 1007 0) ∧ ((S 1009 0) = 1 → (g11 1009 0) = 1) ∧ ((g11 1021 0) = 0 → sm_WF (g11 11) (g11 12) (g11 13) (g11 1100001) (g11 1100002) (g11 1100005) (g11 1100003) (g11 1100004) (g11 1024 0) (g11 1007 0) (g11 1009 0) (sm_fn (g11 1032 0) (g11 21) (g11 1043 0)) ∧ sm_PX (S 11) (S 12) (S 13) (S 1100001) (S 1100002) (S 1100005) (S 1100003) (S 1100004) (g11 11) (g11 12) (g11 13) (g11 1100001) (g11 1100002) (g11 1100005) (g11 1100003) (g11 1100004) (S 1024 0) ∧ sm_FT (g11 11) (g11 12) (g11 13) (g11 1100019) (g11 17) (g11 18) (g11 21) (g11 19) (g11 20) (g11 22) (g11 1100016) (g11 1024 0) (g11 1007 0) (g11 1009 0) (g11 1032 0) (g11 1032 0) ∧ sm_WG (g11 1100001) (g11 1100019) (g11 1043 0) ∧ sm_F1 (S 1100019) (g11 1100019) (S 1024 0) ∧ sm_F1 (S 1100035) (g11 1100035) (S 1024 0) ∧ sm_F1 (S 17) (g11 17) (S 1032 0) ∧ sm_F1 (S 18) (g11 18) (S 1032 0) ∧ sm_F1 (S 21) (g11 21) (S 1032 0) ∧ sm_F1 (S 20) (g11 20) (S 1032 0) ∧ sm_F1 (S 22) (g11 22) (S 1032 0) ∧ sm_F1 (S 1100016) (g11 1100016) (S 1032 0) ∧ sm_F1 (S 19) (g11 19) (8 * (S 1032 0)) ∧ sm_FN (g11 1100016) (S 1032 0) (g11 1032 0) ∧ sm_RG (g11 11) (g11 12) (g11 13) (g11 1100035) (g11 1024 0)) ∧ (g11 1100036 0) = (S 1100036 0) ∧ sm_KL (S 15) (S 16) (g11 15) (g11 16) (S 1031 0) ∧ sm_HD (g11 23) (g11 24) (g11 1100018 0) (g11 1007 0) ∧ sm_HD (g11 25) (fun _ : Int => (g11 1042 0)) 1 (g11 1007 0) ∧ (g11 1031 0) = (S 1031 0) ∧ (g11 1043 0) = (S 1043 0) ∧ (g11 1044 0) = (S 1044 0) ∧ (g11 1045 0) = (S 1045 0) ∧ (S 1032 0) ≤ (g11 1032 0) ∧ (g11 1032 0) ≤ 1 + (g11 1020 0) ∧ (g11 1100018 0) = (g11 1032 0) ∧ (S 1024 0) ≤ (g11 1024 0) ∧ ((g11 1021 0) = 0 → (g11 1023 0) = (S 1023 0) ∧ (g11 1024 0) + 1 ≤ (S 1024 0) + 2 * ((g11 1020 0) - (S 1020 0))) ∧ (0 < (g11 1021 0) → (g11 1024 0) ≤ (S 1024 0) + 2 * ((g11 1020 0) - (S 1020 0)) + 2 * (30 * (20 - (S 1023 0)) + 26)) ∧ -1 ≤ l2_12 ∧ l2_12 < 12000 ∧ ((g11 1021 0) = 0 → (S 1020 0) < (g11 1020 0) ∧ 1 ≤ (S 6 (S 1020 0)) ∧ sm_ex (g11 1100001) (g11 1100002) (g11 1100005) (g11 1024 0) 1 l2_12 (17 * (20 - (S 1023 0)) + 17) (20 - (S 1023 0)) ∧ ((g11 11 l2_12) = 2 ∨ (g11 11 l2_12) = 7 → (g11 1100002 l2_12) ≤ 17 * (20 - (S 1023 0)) + 2))) → (0 ≤ 2 * ((S 1012 0) - (g11 1020 0)) + (if (g11 1021 0) = 0 then 1 else 0)) ∧ (sv_R (g11 1021 0) → (((¬ (g11 1021 0) = (0 : Int)) → ((S 1020 0) ≤ (g11 1020 0) ∧ (g11 1020 0) < (S 1012 0) ∧ 0 ≤ (g11 1021 0) ∧ (0 < (S 1021 0) → 0 < (g11 1021 0)) ∧ (S 1007 0) ≤ (g11 1007 0) ∧ (g11 1007 0) ≤ 90 ∧ sm_LN (g11 4) 400 (g11 1007 0) ∧ ((S 1009 0) = 1 → (g11 1009 0) = 1) ∧ ((g11 1021 0) = 0 → sm_WF (g11 11) (g11 12) (g11 13) (g11 1100001) (g11 1100002) (g11 1100005) (g11 1100003) (g11 1100004) (g11 1024 0) (g11 1007 0) (g11 1009 0) (sm_fn (g11 1032 0) (g11 21) (g11 1043 0)) ∧ sm_PX (S 11) (S 12) (S 13) (S 1100001) (S 1100002) (S 1100005) (S 1100003) (S 1100004) (g11 11) (g11 12) (g11 13) (g11 1100001) (g11 1100002) (g11 1100005) (g11 1100003) (g11 1100004) (S 1024 0) ∧ sm_FT (g11 11) (g11 12) (g11 13) (g11 1100019) (g11 17) (g11 18) (g11 21) (g11 19) (g11 20) (g11 22) (g11 1100016) (g11 1024 0) (g11 1007 0) (g11 1009 0) (g11 1032 0) (g11 1032 0) ∧ sm_WG (g11 1100001) (g11 1100019) (g11 1043 0) ∧ sm_F1 (S 1100019) (g11 1100019) (S 1024 0) ∧ sm_F1 (S 1100035) (g11 1100035) (S 1024 0) ∧ sm_F1 (S 17) (g11 17) (S 1032 0) ∧ sm_F1 (S 18) (g11 18) (S 1032 0) ∧ sm_F1 (S 21) (g11 21) (S 1032 0) ∧ sm_F1 (S 20) (g11 20) (S 1032 0) ∧ sm_F1 (S 22) (g11 22) (S 1032 0) ∧ sm_F1 (S 1100016) (g11 1100016) (S 1032 0) ∧ sm_F1 (S 19) (g11 19) (8 * (S 1032 0)) ∧ sm_FN (g11 1100016) (S 1032 0) (g11 1032 0) ∧ sm_RG (g11 11) (g11 12) (g11 13) (g11 1100035) (g11 1024 0)) ∧ (g11 1100036 0) = (S 1100036 0) ∧ sm_KL (S 15) (S 16) (g11 15) (g11 16) (S 1031 0) ∧ sm_HD (g11 23) (g11 24) (g11 1100018 0) (g11 1007 0) ∧ sm_HD (g11 25) (fun _ : Int => (g11 1042 0)) 1 (g11 1007 0) ∧ (g11 1031 0) = (S 1031 0) ∧ (g11 1043 0) = (S 1043 0) ∧ (g11 1044 0) = (S 1044 0) ∧ (g11 1045 0) = (S 1045 0) ∧ (S 1032 0) ≤ (g11 1032 0) ∧ (g11 1032 0) ≤ 1 + (g11 1020 0) ∧ (g11 1100018 0) = (g11 1032 0) ∧ (S 1024 0) ≤ (g11 1024 0) ∧ ((g11 1021 0) = 0 → (g11 1023 0) = (S 1023 0) ∧ (g11 1024 0) + 1 ≤ (S 1024 0) + 2 * ((g11 1020 0) - (S 1020 0))) ∧ (0 < (g11 1021 0) → (g11 1024 0) ≤ (S 1024 0) + 2 * ((g11 1020 0) - (S 1020 0)) + 2 * (30 * (20 - (S 1023 0)) + 26)) ∧ -1 ≤ l2_12 ∧ l2_12 < 12000 ∧ ((g11 1021 0) = 0 → (S 1020 0) < (g11 1020 0) ∧ 1 ≤ (S 6 (S 1020 0)) ∧ sm_ex (g11 1100001) (g11 1100002) (g11 1100005) (g11 1024 0) 1 l2_12 (17 * (20 - (S 1023 0)) + 17) (20 - (S 1023 0)) ∧ ((g11 11 l2_12) = 2 ∨ (g11 11 l2_12) = 7 → (g11 1100002 l2_12) ≤ 17 * (20 - (S 1023 0)) + 2)))) ∧ ((¬ (¬ (g11 1021 0) = (0 : Int))) → (0 ≤ (g11 1020 0) ∧ (g11 1020 0) ≤ 4000) ∧ (0 + 1 ≤ (30 * (20 - (S 1023 0)) + 26)) ∧ (((¬ ((S 6 (g11 1020 0)) = 5 ∧ (S 7 (g11 1020 0)) = (32 : Int))) → ((S 1020 0) ≤ (g11 1020 0) ∧ (g11 1020 0) < (S 1012 0) ∧ 0 ≤ (g11 1021 0) ∧ (0 < (S 1021 0) → 0 < (g11 1021 0)) ∧ (S 1007 0) ≤ (g11 1007 0) ∧ (g11 1007 0) ≤ 90 ∧ sm_LN (g11 4) 400 (g11 1007 0) ∧ ((S 1009 0) = 1 → (g11 1009 0) = 1) ∧ ((g11 1021 0) = 0 → sm_WF (g11 11) (g11 12) (g11 13) (g11 1100001) (g11 1100002) (g11 1100005) (g11 1100003) (g11 1100004) (g11 1024 0) (g11 1007 0) (g11 1009 0) (sm_fn (g11 1032 0) (g11 21) (g11 1043 0)) ∧ sm_PX (S 11) (S 12) (S 13) (S 1100001) (S 1100002) (S 1100005) (S 1100003) (S 1100004) (g11 11) (g11 12) (g11 13) (g11 1100001) (g11 1100002) (g11 1100005) (g11 1100003) (g11 1100004) (S 1024 0) ∧ sm_FT (g11 11) (g11 12) (g11 13) (g11 1100019) (g11 17) (g11 18) (g11 21) (g11 19) (g11 20) (g11 22) (g11 1100016) (g11 1024 0) (g11 1007 0) (g11 1009 0) (g11 1032 0) (g11 1032 0) ∧ sm_WG (g11 1100001) (g11 1100019) (g11 1043 0) ∧ sm_F1 (S 1100019) (g11 1100019) (S 1024 0) ∧ sm_F1 (S 1100035) (g11 1100035) (S 1024 0) ∧ sm_F1 (S 17) (g11 17) (S 1032 0) ∧ sm_F1 (S 18) (g11 18) (S 1032 0) ∧ sm_F1 (S 21) (g11 21) (S 1032 0) ∧ sm_F1 (S 20) (g11 20) (S 1032 0) ∧ sm_F1 (S 22) (g11 22) (S 1032 0) ∧ sm_F1 (S 1100016) (g11 1100016) (S 1032 0) ∧ sm_F1 (S 19) (g11 19) (8 * (S 1032 0)) ∧ sm_FN (g11 1100016) (S 1032 0) (g11 1032 0) ∧ sm_RG (g11 11) (g11 12) (g11 13) (g11 1100035) (g11 1024 0)) ∧ (g11 1100036 0) = (S 1100036 0) ∧ sm_KL (S 15) (S 16) (g11 15) (g11 16) (S 1031 0) ∧ sm_HD (g11 23) (g11 24) (g11 1100018 0) (g11 1007 0) ∧ sm_HD (g11 25) (fun _ : Int => (g11 1042 0)) 1 (g11 1007 0) ∧ (g11 1031 0) = (S 1031 0) ∧ (g11 1043 0) = (S 1043 0) ∧ (g11 1044 0) = (S 1044 0) ∧ (g11 1045 0) = (S 1045 0) ∧ (S 1032 0) ≤ (g11 1032 0) ∧ (g11 1032 0) ≤ 1 + (g11 1020 0) ∧ (g11 1100018 0) = (g11 1032 0) ∧ (S 1024 0) ≤ (g11 1024 0) ∧ ((g11 1021 0) = 0 → (g11 1023 0) = (S 1023 0) ∧ (g11 1024 0) + 1 ≤ (S 1024 0) + 2 * ((g11 1020 0) - (S 1020 0))) ∧ (0 < (g11 1021 0) → (g11 1024 0) ≤ (S 1024 0) + 2 * ((g11 1020 0) - (S 1020 0)) + 2 * (30 * (20 - (S 1023 0)) + 26)) ∧ -1 ≤ l2_12 ∧ l2_12 < 12000 ∧ ((g11 1021 0) = 0 → (S 1020 0) < (g11 1020 0) ∧ 1 ≤ (S 6 (S 1020 0)) ∧ sm_ex (g11 1100001) (g11 1100002) (g11 1100005) (g11 1024 0) 1 l2_12 (17 * (20 - (S 1023 0)) + 17) (20 - (S 1023 0)) ∧ ((g11 11 l2_12) = 2 ∨ (g11 11 l2_12) = 7 → (g11 1100002 l2_12) ≤ 17 * (20 - (S 1023 0)) + 2)))) ∧ (((S 6 (g11 1020 0)) = 5 ∧ (S 7 (g11 1020 0)) = (32 : Int)) → (sv_R (g11 1020 0) → (sv_R ((g11 1020 0) + (1 : Int))) ∧ (0 ≤ ((g11 1020 0) + (1 : Int)) ∧ ((g11 1020 0) + (1 : Int)) < (S 1012 0) ∧ sm_TK (S 6) (S 8) (S 9) (S 10) (S 1012 0) ∧ 0 ≤ (g11 1021 0) ∧ 0 ≤ (S 1004 0) ∧ (S 1004 0) ≤ 4000 ∧ 1 ≤ (g11 1007 0) ∧ (g11 1007 0) ≤ 90 ∧ sm_LN (g11 4) 400 (g11 1007 0) ∧ ((g11 1021 0) = 0 → sm_WF (g11 11) (g11 12) (g11 13) (g11 1100001) (g11 1100002) (g11 1100005) (g11 1100003) (g11 1100004) (g11 1024 0) (g11 1007 0) (g11 1009 0) (sm_fn (g11 1032 0) (g11 21) (g11 1043 0)) ∧ sm_FT (g11 11) (g11 12) (g11 13) (g11 1100019) (g11 17) (g11 18) (g11 21) (g11 19) (g11 20) (g11 22) (g11 1100016) (g11 1024 0) (g11 1007 0) (g11 1009 0) (g11 1032 0) (g11 1032 0) ∧ sm_WG (g11 1100001) (g11 1100019) (g11 1043 0) ∧ (g11 1100016 (g11 1043 0)) = 0 ∧ sm_RG (g11 11) (g11 12) (g11 13) (g11 1100035) (g11 1024 0)) ∧ -1 ≤ (g11 1100036 0) ∧ (g11 1100036 0) < (g11 1024 0) ∧ sm_HD (g11 23) (g11 24) (g11 1100018 0) (g11 1007 0) ∧ sm_HD (g11 25) (fun _ : Int => (g11 1042 0)) 1 (g11 1007 0) ∧ 0 ≤ (g11 1043 0) ∧ (g11 1043 0) < (g11 1100018 0) ∧ (g11 1100018 0) = (g11 1032 0) ∧ (g11 1032 0) ≤ 1 + ((g11 1020 0) + (1 : Int)) ∧ 0 ≤ (g11 1031 0) ∧ (g11 1031 0) ≤ 100 ∧ 0 ≤ (g11 1044 0) ∧ (g11 1044 0) ≤ 30 ∧ 0 ≤ (g11 1045 0) ∧ (g11 1045 0) ≤ 30 ∧ 0 ≤ (g11 1024 0) ∧ ((g11 1021 0) = 0 → 0 ≤ (g11 1023 0) ∧ (g11 1023 0) ≤ 20 ∧ (g11 1031 0) ≤ 3 * (g11 1023 0) + 5 ∧ (g11 1024 0) ≤ 2 * ((g11 1020 0) + (1 : Int)) ∧ (g11 1044 0) ≤ (g11 1023 0) ∧ (g11 1045 0) ≤ (g11 1023 0))) ∧ (0 ≤ ((if 0 < (g11 1021 0) then 12 else 30 * (20 - (g11 1023 0)) + 25)) ∧ ((if 0 < (g11 1021 0) then 12 else 30 * (20 - (g11 1023 0)) + 25)) < d) ∧ (0 ≤ ((if 0 < (g11 1021 0) then 12 else 30 * (20 - (g11 1023 0)) + 25)) ∧ ((if 0 < (g11 1021 0) then 12 else 30 * (20 - (g11 1023 0)) + 25)) + 1 ≤ (30 * (20 - (S 1023 0)) + 26)) ∧ (∀ r33 : Int, sv_R r33 → ∀ g29 : sv_S, (((g11 1020 0) + (1 : Int)) ≤ (g29 1020 0) ∧ (g29 1020 0) < (S 1012 0) ∧ 0 ≤ (g29 1021 0) ∧ (0 < (g11 1021 0) → 0 < (g29 1021 0)) ∧ (g11 1007 0) ≤ (g29 1007 0) ∧ (g29 1007 0) ≤ 90 ∧ sm_LN (g29 4) 400 (g29 1007 0) ∧ ((g11 1009 0) = 1 → (g29 1009 0) = 1) ∧ ((g29 1021 0) = 0 → sm_WF (g29 11) (g29 12) (g29 13) (g29 1100001) (g29 1100002) (g29 1100005) (g29 1100003) (g29 1100004) (g29 1024 0) (g29 1007 0) (g29 1009 0) (sm_fn (g29 1032 0) (g29 21) (g29 1043 0)) ∧ sm_PX (g11 11) (g11 12) (g11 13) (g11 1100001) (g11 1100002) (g11 1100005) (g11 1100003) (g11 1100004) (g29 11) (g29 12) (g29 13) (g29 1100001) (g29 1100002) (g29 1100005) (g29 1100003) (g29 1100004) (g11 1024 0) ∧ sm_FT (g29 11) (g29 12) (g29 13) (g29 1100019) (g29 17) (g29 18) (g29 21) (g29 19) (g29 20) (g29 22) (g29 1100016) (g29 1024 0) (g29 1007 0) (g29 1009 0) (g29 1032 0) (g29 1032 0) ∧ sm_WG (g29 1100001) (g29 1100019) (g29 1043 0) ∧ sm_F1 (g11 1100019) (g29 1100019) (g11 1024 0) ∧ sm_F1 (g11 1100035) (g29 1100035) (g11 1024 0) ∧ sm_F1 (g11 17) (g29 17) (g11 1032 0) ∧ sm_F1 (g11 18) (g29 18) (g11 1032 0) ∧ sm_F1 (g11 21) (g29 21) (g11 1032 0) ∧ sm_F1 (g11 20) (g29 20) (g11 1032 0) ∧ sm_F1 (g11 22) (g29 22) (g11 1032 0) ∧ sm_F1 (g11 1100016) (g29 1100016) (g11 1032 0) ∧ sm_F1 (g11 19) (g29 19) (8 * (g11 1032 0)) ∧ sm_FN (g29 1100016) (g11 1032 0) (g29 1032 0) ∧ sm_RG (g29 11) (g29 12) (g29 13) (g29 1100035) (g29 1024 0)) ∧ (g29 1100036 0) = (g11 1100036 0) ∧ sm_KL (g11 15) (g11 16) (g29 15) (g29 16) (g11 1031 0) ∧ sm_HD (g29 23) (g29 24) (g29 1100018 0) (g29 1007 0) ∧ sm_HD (g29 25) (fun _ : Int => (g29 1042 0)) 1 (g29 1007 0) ∧ (g29 1031 0) = (g11 1031 0) ∧ (g29 1043 0) = (g11 1043 0) ∧ (g29 1044 0) = (g11 1044 0) ∧ (g29 1045 0) = (g11 1045 0) ∧ (g11 1032 0) ≤ (g29 1032 0) ∧ (g29 1032 0) ≤ 1 + (g29 1020 0) ∧ (g29 1100018 0) = (g29 1032 0) ∧ (g11 1024 0) ≤ (g29 1024 0) ∧ ((g29 1021 0) = 0 → (g29 1023 0) = (g11 1023 0) ∧ (g29 1024 0) + 1 ≤ (g11 1024 0) + 2 * ((g29 1020 0) - ((g11 1020 0) + (1 : Int)))) ∧ (0 < (g29 1021 0) → (g29 1024 0) ≤ (g11 1024 0) + 2 * ((g29 1020 0) - ((g11 1020 0) + (1 : Int))) + 2 * ((if 0 < (g11 1021 0) then 12 else 30 * (20 - (g11 1023 0)) + 25))) ∧ -1 ≤ r33 ∧ r33 < 12000 ∧ ((g29 1021 0) = 0 → ((g11 1020 0) + (1 : Int)) < (g29 1020 0) ∧ 1 ≤ (S 6 ((g11 1020 0) + (1 : Int))) ∧ sm_ex (g29 1100001) (g29 1100002) (g29 1100005) (g29 1024 0) 1 r33 (17 * (20 - (g11 1023 0)) + 17) (20 - (g11 1023 0)) ∧ ((g29 11 r33) = 2 ∨ (g29 11 r33) = 7 → (g29 1100002 r33) ≤ 17 * (20 - (g11 1023 0)) + 2)) ∧ (0 < (g11 1021 0) → (g29 1020 0) = ((g11 1020 0) + (1 : Int)) ∧ (g29 1024 0) = (g11 1024 0))) → (0 ≤ (g29 1024 0) ∧ (g29 1024 0) < 12000 ∧ -1 ≤ (g29 1100036 0) ∧ (g29 1100036 0) < (g29 1024 0)) ∧ (∀ r41 : Int, sv_R r41 → ∀ g37 : sv_S, (r41 = (g29 1024 0) ∧ (g37 1024 0) = (g29 1024 0) + 1 ∧ (g37 11 r41) = (3 : Int) ∧ (g37 12 (5 * r41)) = l2_12 ∧ (g37 12 (5 * r41 + 1)) = r33 ∧ (g37 12 (5 * r41 + 2)) = (0 : Int) ∧ (g37 12 (5 * r41 + 3)) = -1 ∧ (g37 12 (5 * r41 + 4)) = -1 ∧ (g37 13 r41) = -1 ∧ (g37 14 r41) = 0 ∧ (∀ n : Int, n < (g29 1024 0) → (g37 14 n) = (g29 14 n)) ∧ (sm_WF (g29 11) (g29 12) (g29 13) (g29 1100001) (g29 1100002) (g29 1100005) (g29 1100003) (g29 1100004) (g29 1024 0) (g29 1007 0) (g29 1009 0) (sm_fn (g29 1032 0) (g29 21) (g29 1043 0)) → sm_WF (g37 11) (g37 12) (g37 13) (g29 1100001) (g29 1100002) (g29 1100005) (g29 1100003) (g29 1100004) (g37 1024 0) (g29 1007 0) (g29 1009 0) (sm_fn (g29 1032 0) (g29 21) (g29 1043 0)) ∧ (g29 1100001 r41) = 0) ∧ sm_PX (g29 11) (g29 12) (g29 13) (g29 1100001) (g29 1100002) (g29 1100005) (g29 1100003) (g29 1100004) (g37 11) (g37 12) (g37 13) (g29 1100001) (g29 1100002) (g29 1100005) (g29 1100003) (g29 1100004) (g29 1024 0) ∧ (g37 1100019 r41) = (g29 1043 0) ∧ sm_F1 (g29 1100019) (g37 1100019) (g29 1024 0) ∧ (sm_WG (g29 1100001) (g29 1100019) (g29 1043 0) → sm_WG (g29 1100001) (g37 1100019) (g29 1043 0)) ∧ (sm_FT (g29 11) (g29 12) (g29 13) (g29 1100019) (g29 17) (g29 18) (g29 21) (g29 19) (g29 20) (g29 22) (g29 1100016) (g29 1024 0) (g29 1007 0) (g29 1009 0) (g29 1032 0) (g29 1032 0) → sm_FT (g37 11) (g37 12) (g37 13) (g37 1100019) (g29 17) (g29 18) (g29 21) (g29 19) (g29 20) (g29 22) (g29 1100016) (g37 1024 0) (g29 1007 0) (g29 1009 0) (g29 1032 0) (g29 1032 0)) ∧ (g37 1100035 r41) = (g29 1100036 0) ∧ sm_F1 (g29 1100035) (g37 1100035) (g29 1024 0) ∧ (sm_RG (g29 11) (g29 12) (g29 13) (g29 1100035) (g29 1024 0) → ((3 : Int) = 20 → (l2_12 = -1 ∨ (0 ≤ l2_12 ∧ l2_12 < (g29 1024 0) ∧ (g29 1100035 l2_12) = (g29 1100036 0)))) → ((3 : Int) = 24 → (r33 = -1 ∨ (0 ≤ r33 ∧ r33 < (g29 1024 0) ∧ (g29 1100035 r33) = (g29 1100036 0))) ∧ ((0 : Int) = -1 ∨ (0 ≤ (0 : Int) ∧ (0 : Int) < (g29 1024 0) ∧ (g29 1100035 (0 : Int)) = (g29 1100036 0)))) → ((3 : Int) = 25 ∨ (3 : Int) = 26 → (r33 = -1 ∨ (0 ≤ r33 ∧ r33 < (g29 1024 0) ∧ (g29 1100035 r33) = (g29 1100036 0)))) → ((3 : Int) = 27 → (l2_12 = -1 ∨ (0 ≤ l2_12 ∧ l2_12 < (g29 1024 0) ∧ (g29 1100035 l2_12) = (g29 1100036 0)))) → ((3 : Int) = 28 → ((0 : Int) = -1 ∨ (0 ≤ (0 : Int) ∧ (0 : Int) < (g29 1024 0) ∧ (g29 1100035 (0 : Int)) = (g29 1100036 0)))) → ((3 : Int) = 33 → l2_12 = -1 ∧ (0 : Int) = -1) → ((3 : Int) = 34 ∨ (3 : Int) = 35 → r33 = -1) → sm_RG (g37 11) (g37 12) (g37 13) (g37 1100035) (g37 1024 0))) → (sv_R ((17 * (20 - (S 1023 0)) + 17))) ∧ (sv_R ((20 - (S 1023 0)))) ∧ (((g29 1021 0) = 0 → sm_WG (g29 1100001) (g37 1100019) (g29 1043 0) → (g37 1100019 r41) = (g29 1043 0) → sm_WG (fun i' : Int => if i' = r41 then (1 : Int) else (g29 1100001) i') (g37 1100019) (g29 1043 0)) → (((g29 1021 0) = 0 → sm_WF (g37 11) (g37 12) (g37 13) (g29 1100001) (g29 1100002) (g29 1100005) (g29 1100003) (g29 1100004) (g37 1024 0) (g29 1007 0) (g29 1009 0) (sm_fn (g29 1032 0) (g29 21) (g29 1043 0)) → (g29 1100001 r41) = 0 → 0 ≤ r41 → r41 < (g37 1024 0) → (g37 13 r41) = -1 → (g37 11 r41) = 3 → (sm_ex (g29 1100001) (g29 1100002) (g29 1100005) (g37 1024 0) 1 (g37 12 (5 * r41)) (17 * (20 - (S 1023 0)) + 17) (20 - (S 1023 0))) → ((g37 12 (5 * r41)) < r41) → (sm_ex (g29 1100001) (g29 1100002) (g29 1100005) (g37 1024 0) 1 (g37 12 (5 * r41 + 1)) (17 * (20 - (S 1023 0)) + 17) (20 - (S 1023 0))) → (0 ≤ (17 * (20 - (S 1023 0)) + 17)) → (0 ≤ (20 - (S 1023 0))) → ((g37 12 (5 * r41 + 1)) < r41) → sm_WF (g37 11) (g37 12) (g37 13) (fun i' : Int => if i' = r41 then (1 : Int) else (g29 1100001) i') (fun i' : Int => if i' = r41 then ((17 * (20 - (S 1023 0)) + 17)) else (g29 1100002) i') (fun i' : Int => if i' = r41 then ((20 - (S 1023 0))) else (g29 1100005) i') (fun i' : Int => if i' = r41 then (0 : Int) else (g29 1100003) i') (fun i' : Int => if i' = r41 then (0 : Int) else (g29 1100004) i') (g37 1024 0) (g29 1007 0) (g29 1009 0) (sm_fn (g29 1032 0) (g29 21) (g29 1043 0))) → ((0 ≤ (g29 1020 0) ∧ (g29 1020 0) < (S 1012 0) ∧ sm_TK (S 6) (S 8) (S 9) (S 10) (S 1012 0) ∧ 0 ≤ (g29 1021 0) ∧ 0 ≤ (S 1004 0) ∧ (S 1004 0) ≤ 4000 ∧ 1 ≤ (g29 1007 0) ∧ (g29 1007 0) ≤ 90 ∧ sm_LN (g29 4) 400 (g29 1007 0) ∧ ((g29 1021 0) = 0 → sm_WF (g37 11) (g37 12) (g37 13) (fun i' : Int => if i' = r41 then (1 : Int) else (g29 1100001) i') (fun i' : Int => if i' = r41 then ((17 * (20 - (S 1023 0)) + 17)) else (g29 1100002) i') (fun i' : Int => if i' = r41 then ((20 - (S 1023 0))) else (g29 1100005) i') (fun i' : Int => if i' = r41 then (0 : Int) else (g29 1100003) i') (fun i' : Int => if i' = r41 then (0 : Int) else (g29 1100004) i') (g37 1024 0) (g29 1007 0) (g29 1009 0) (sm_fn (g29 1032 0) (g29 21) (g29 1043 0)) ∧ sm_FT (g37 11) (g37 12) (g37 13) (g37 1100019) (g29 17) (g29 18) (g29 21) (g29 19) (g29 20) (g29 22) (g29 1100016) (g37 1024 0) (g29 1007 0) (g29 1009 0) (g29 1032 0) (g29 1032 0) ∧ sm_WG (fun i' : Int => if i' = r41 then (1 : Int) else (g29 1100001) i') (g37 1100019) (g29 1043 0) ∧ (g29 1100016 (g29 1043 0)) = 0 ∧ sm_RG (g37 11) (g37 12) (g37 13) (g37 1100035) (g37 1024 0)) ∧ -1 ≤ (g29 1100036 0) ∧ (g29 1100036 0) < (g37 1024 0) ∧ sm_HD (g29 23) (g29 24) (g29 1100018 0) (g29 1007 0) ∧ sm_HD (g29 25) (fun _ : Int => (g29 1042 0)) 1 (g29 1007 0) ∧ 0 ≤ (g29 1043 0) ∧ (g29 1043 0) < (g29 1100018 0) ∧ (g29 1100018 0) = (g29 1032 0) ∧ (g29 1032 0) ≤ 1 + (g29 1020 0) ∧ 0 ≤ (g29 1031 0) ∧ (g29 1031 0) ≤ 100 ∧ 0 ≤ (g29 1044 0) ∧ (g29 1044 0) ≤ 30 ∧ 0 ≤ (g29 1045 0) ∧ (g29 1045 0) ≤ 30 ∧ 0 ≤ (g37 1024 0) ∧ ((g29 1021 0) = 0 → 0 ≤ (g29 1023 0) ∧ (g29 1023 0) ≤ 20 ∧ (g29 1031 0) ≤ 3 * (g29 1023 0) + 5 ∧ (g37 1024 0) ≤ 2 * (g29 1020 0) ∧ (g29 1044 0) ≤ (g29 1023 0) ∧ (g29 1045 0) ≤ (g29 1023 0)) ∧ (S 1020 0) ≤ (g29 1020 0) ∧ (g29 1020 0) < (S 1012 0) ∧ 0 ≤ (g29 1021 0) ∧ (0 < (S 1021 0) → 0 < (g29 1021 0)) ∧ (S 1007 0) ≤ (g29 1007 0) ∧ (g29 1007 0) ≤ 90 ∧ sm_LN (g29 4) 400 (g29 1007 0) ∧ ((S 1009 0) = 1 → (g29 1009 0) = 1) ∧ ((g29 1021 0) = 0 → sm_WF (g37 11) (g37 12) (g37 13) (fun i' : Int => if i' = r41 then (1 : Int) else (g29 1100001) i') (fun i' : Int => if i' = r41 then ((17 * (20 - (S 1023 0)) + 17)) else (g29 1100002) i') (fun i' : Int => if i' = r41 then ((20 - (S 1023 0))) else (g29 1100005) i') (fun i' : Int => if i' = r41 then (0 : Int) else (g29 1100003) i') (fun i' : Int => if i' = r41 then (0 : Int) else (g29 1100004) i') (g37 1024 0) (g29 1007 0) (g29 1009 0) (sm_fn (g29 1032 0) (g29 21) (g29 1043 0)) ∧ sm_PX (S 11) (S 12) (S 13) (S 1100001) (S 1100002) (S 1100005) (S 1100003) (S 1100004) (g37 11) (g37 12) (g37 13) (fun i' : Int => if i' = r41 then (1 : Int) else (g29 1100001) i') (fun i' : Int => if i' = r41 then ((17 * (20 - (S 1023 0)) + 17)) else (g29 1100002) i') (fun i' : Int => if i' = r41 then ((20 - (S 1023 0))) else (g29 1100005) i') (fun i' : Int => if i' = r41 then (0 : Int) else (g29 1100003) i') (fun i' : Int => if i' = r41 then (0 : Int) else (g29 1100004) i') (S 1024 0) ∧ sm_FT (g37 11) (g37 12) (g37 13) (g37 1100019) (g29 17) (g29 18) (g29 21) (g29 19) (g29 20) (g29 22) (g29 1100016) (g37 1024 0) (g29 1007 0) (g29 1009 0) (g29 1032 0) (g29 1032 0) ∧ sm_WG (fun i' : Int => if i' = r41 then (1 : Int) else (g29 1100001) i') (g37 1100019) (g29 1043 0) ∧ sm_F1 (S 1100019) (g37 1100019) (S 1024 0) ∧ sm_F1 (S 1100035) (g37 1100035) (S 1024 0) ∧ sm_F1 (S 17) (g29 17) (S 1032 0) ∧ sm_F1 (S 18) (g29 18) (S 1032 0) ∧ sm_F1 (S 21) (g29 21) (S 1032 0) ∧ sm_F1 (S 20) (g29 20) (S 1032 0) ∧ sm_F1 (S 22) (g29 22) (S 1032 0) ∧ sm_F1 (S 1100016) (g29 1100016) (S 1032 0) ∧ sm_F1 (S 19) (g29 19) (8 * (S 1032 0)) ∧ sm_FN (g29 1100016) (S 1032 0) (g29 1032 0) ∧ sm_RG (g37 11) (g37 12) (g37 13) (g37 1100035) (g37 1024 0)) ∧ (g29 1100036 0) = (S 1100036 0) ∧ sm_KL (S 15) (S 16) (g29 15) (g29 16) (S 1031 0) ∧ sm_HD (g29 23) (g29 24) (g29 1100018 0) (g29 1007 0) ∧ sm_HD (g29 25) (fun _ : Int => (g29 1042 0)) 1 (g29 1007 0) ∧ (g29 1031 0) = (S 1031 0) ∧ (g29 1043 0) = (S 1043 0) ∧ (g29 1044 0) = (S 1044 0) ∧ (g29 1045 0) = (S 1045 0) ∧ (S 1032 0) ≤ (g29 1032 0) ∧ (g29 1032 0) ≤ 1 + (g29 1020 0) ∧ (g29 1100018 0) = (g29 1032 0) ∧ (S 1024 0) ≤ (g37 1024 0) ∧ ((g29 1021 0) = 0 → (g29 1023 0) = (S 1023 0) ∧ (g37 1024 0) + 1 ≤ (S 1024 0) + 2 * ((g29 1020 0) - (S 1020 0))) ∧ (0 < (g29 1021 0) → (g37 1024 0) ≤ (S 1024 0) + 2 * ((g29 1020 0) - (S 1020 0)) + 2 * (30 * (20 - (S 1023 0)) + 26)) ∧ -1 ≤ r41 ∧ r41 < 12000 ∧ ((g29 1021 0) = 0 → (S 1020 0) < (g29 1020 0) ∧ 1 ≤ (S 6 (S 1020 0)) ∧ sm_ex (fun i' : Int => if i' = r41 then (1 : Int) else (g29 1100001) i') (fun i' : Int => if i' = r41 then ((17 * (20 - (S 1023 0)) + 17)) else (g29 1100002) i') (fun i' : Int => if i' = r41 then ((20 - (S 1023 0))) else (g29 1100005) i') (g37 1024 0) 1 r41 (17 * (20 - (S 1023 0)) + 17) (20 - (S 1023 0)) ∧ ((g37 11 r41) = 2 ∨ (g37 11 r41) = 7 → (if r41 = r41 then ((17 * (20 - (S 1023 0)) + 17)) else (g29 1100002 r41)) ≤ 17 * (20 - (S 1023 0)) + 2))) ∧ (2 * ((S 1012 0) - (g29 1020 0)) + (if (g29 1021 0) = 0 then 1 else 0)) < (2 * ((S 1012 0) - (g11 1020 0)) + (if (g11 1021 0) = 0 then 1 else 0)))))))))))))))) := by
  intro d
  intro p1
  intro S
  intro h1_
  rintro ⟨h2_, h3_⟩
  rintro ⟨h4_, ⟨h5_, ⟨h6_, ⟨h7_, ⟨h8_, ⟨h9_, ⟨h10_, ⟨h11_, ⟨h12_, ⟨h13_, ⟨h14_, ⟨h15_, ⟨h16_, ⟨h17_, ⟨h18_, ⟨h19_, ⟨h20_, ⟨h21_, ⟨h22_, ⟨h23_, ⟨h24_, ⟨h25_, ⟨h26_, ⟨h27_, ⟨h28_, ⟨h29_, h30_⟩⟩⟩⟩⟩⟩⟩⟩⟩⟩⟩⟩⟩⟩⟩⟩⟩⟩⟩⟩⟩⟩⟩⟩⟩⟩
  obtain ⟨h31_, ⟨h32_, ⟨h33_, ⟨h34_, ⟨h35_, h36_⟩⟩⟩⟩⟩ := (h29_ h30_)
  obtain ⟨h37_, ⟨h38_, ⟨h39_, ⟨h40_, h41_⟩⟩⟩⟩ := (h13_ h30_)
  intro h42_
  refine ⟨(la_expression_0 h2_ h3_), ?_⟩
  refine ⟨⟨h4_, ⟨h5_, ⟨h6_, ⟨h7_, ⟨h8_, ⟨h9_, ⟨h10_, ⟨h11_, ⟨h12_, ⟨h13_, ⟨h14_, ⟨h15_, ⟨h16_, ⟨h17_, (la_expression_1 h18_ h19_ h20_ h21_ h22_ h24_ h26_ h28_ h31_ h32_ h33_ h34_ h35_ h36_)⟩⟩⟩⟩⟩⟩⟩⟩⟩⟩⟩⟩⟩⟩, ?_⟩
  refine ⟨?_, ?_⟩
  · skip
    refine ⟨?_, ?_⟩
    · skip
      have e43_ : (if 0 < S 1021 0 then 12 else 30 * (20 - S 1023 0) + 25 : Int) = 30 * (20 - S 1023 0) + 25 := if_neg (la_expression_2 h30_)
      exact (la_expression_3 h32_ e43_)
    have e44_ : (if 0 < S 1021 0 then 12 else 30 * (20 - S 1023 0) + 25 : Int) = 30 * (20 - S 1023 0) + 25 := if_neg (la_expression_2 h30_)
    exact (la_expression_4 h42_ e44_)
  refine ⟨?_, ?_⟩
  · skip
    refine ⟨?_, ?_⟩
    · skip
      have e45_ : (if 0 < S 1021 0 then 12 else 30 * (20 - S 1023 0) + 25 : Int) = 30 * (20 - S 1023 0) + 25 := if_neg (la_expression_2 h30_)
      exact (la_expression_3 h32_ e45_)
    have e46_ : (if 0 < S 1021 0 then 12 else 30 * (20 - S 1023 0) + 25 : Int) = 30 * (20 - S 1023 0) + 25 := if_neg (la_expression_2 h30_)
    exact (la_expression_5 e46_)
  intro r9
  intro h47_
  intro g5
  rintro ⟨h48_, ⟨h49_, ⟨h50_, ⟨h51_, ⟨h52_, ⟨h53_, ⟨h54_, ⟨h55_, ⟨h56_, ⟨h57_, ⟨h58_, ⟨h59_, ⟨h60_, ⟨h61_, ⟨h62_, ⟨h63_, ⟨h64_, ⟨h65_, ⟨h66_, ⟨h67_, ⟨h68_, ⟨h69_, ⟨h70_, ⟨h71_, ⟨h72_, ⟨h73_, h74_⟩⟩⟩⟩⟩⟩⟩⟩⟩⟩⟩⟩⟩⟩⟩⟩⟩⟩⟩⟩⟩⟩⟩⟩⟩⟩
  have e75_ : (if 0 < S 1021 0 then 12 else 30 * (20 - S 1023 0) + 25 : Int) = 30 * (20 - S 1023 0) + 25 := if_neg (la_expression_2 h30_)
  refine ⟨?_, ?_⟩
  · skip
    refine ⟨(la_expression_6 h4_ h48_), ?_⟩
    refine ⟨h49_, ?_⟩
    refine ⟨h6_, ?_⟩
    refine ⟨h50_, ?_⟩
    refine ⟨h8_, ?_⟩
    refine ⟨h9_, ?_⟩
    refine ⟨(la_expression_7 h10_ h52_), ?_⟩
    refine ⟨h53_, ?_⟩
    refine ⟨h54_, ?_⟩
    refine ⟨?_, ?_⟩
    · skip
      intro h76_
      obtain ⟨h77_, h78_⟩ := (h69_ h76_)
      obtain ⟨h79_, ⟨h80_, ⟨h81_, ⟨h82_, ⟨h83_, ⟨h84_, ⟨h85_, ⟨h86_, ⟨h87_, ⟨h88_, ⟨h89_, ⟨h90_, ⟨h91_, ⟨h92_, h93_⟩⟩⟩⟩⟩⟩⟩⟩⟩⟩⟩⟩⟩⟩ := (h56_ h76_)
      obtain ⟨h94_, ⟨h95_, ⟨h96_, h97_⟩⟩⟩ := (h73_ h76_)
      refine ⟨h79_, ?_⟩
      refine ⟨h81_, ?_⟩
      refine ⟨h82_, ?_⟩
      refine ⟨?_, ?_⟩
      · skip
        have h98_ := ((sm_TK_go h6_ (S 1020 0) h4_ h5_) h95_)
        have e99_ : S 1100016 (g5 1043 0) = S 1100016 (S 1043 0) := congrArg ((S 1100016)) h62_
        exact (la_expression_9 h40_ (sm_F1_at h90_ (g5 1043 0) (la_expression_8 h19_ h20_ h62_)) e99_)
      exact h93_
    refine ⟨(la_expression_10 h14_ h57_), ?_⟩
    refine ⟨(la_expression_11 h15_ h57_ h68_), ?_⟩
    refine ⟨h59_, ?_⟩
    refine ⟨h60_, ?_⟩
    refine ⟨(la_expression_12 h18_ h62_), ?_⟩
    refine ⟨(la_expression_13 h19_ h20_ h62_ h65_ h67_), ?_⟩
    refine ⟨h67_, ?_⟩
    refine ⟨h66_, ?_⟩
    refine ⟨(la_expression_12 h22_ h61_), ?_⟩
    refine ⟨(la_expression_14 h32_ h33_ h61_), ?_⟩
    refine ⟨(la_expression_12 h24_ h63_), ?_⟩
    refine ⟨(la_expression_15 h32_ h35_ h63_), ?_⟩
    refine ⟨(la_expression_12 h26_ h64_), ?_⟩
    refine ⟨(la_expression_15 h32_ h36_ h64_), ?_⟩
    refine ⟨(la_expression_6 h28_ h68_), ?_⟩
    refine ⟨(la_expression_16 h31_ h32_ h33_ h34_ h35_ h36_ h50_ h61_ h63_ h64_ h69_), ?_⟩
    refine ⟨h48_, ?_⟩
    refine ⟨h49_, ?_⟩
    refine ⟨h50_, ?_⟩
    refine ⟨h51_, ?_⟩
    refine ⟨h52_, ?_⟩
    refine ⟨h53_, ?_⟩
    refine ⟨h54_, ?_⟩
    refine ⟨h55_, ?_⟩
    refine ⟨h56_, ?_⟩
    refine ⟨h57_, ?_⟩
    refine ⟨h58_, ?_⟩
    refine ⟨h59_, ?_⟩
    refine ⟨h60_, ?_⟩
    refine ⟨h61_, ?_⟩
    refine ⟨h62_, ?_⟩
    refine ⟨h63_, ?_⟩
    refine ⟨h64_, ?_⟩
    refine ⟨h65_, ?_⟩
    refine ⟨h66_, ?_⟩
    refine ⟨h67_, ?_⟩
    refine ⟨h68_, ?_⟩
    refine ⟨h69_, ?_⟩
    refine ⟨(la_expression_17 h70_ e75_), ?_⟩
    refine ⟨h71_, ?_⟩
    refine ⟨h72_, ?_⟩
    intro h100_
    obtain ⟨h101_, h102_⟩ := (h69_ h100_)
    obtain ⟨h103_, ⟨h104_, ⟨h105_, ⟨h106_, ⟨h107_, ⟨h108_, ⟨h109_, ⟨h110_, ⟨h111_, ⟨h112_, ⟨h113_, ⟨h114_, ⟨h115_, ⟨h116_, h117_⟩⟩⟩⟩⟩⟩⟩⟩⟩⟩⟩⟩⟩⟩ := (h56_ h100_)
    obtain ⟨h118_, ⟨h119_, ⟨h120_, h121_⟩⟩⟩ := (h73_ h100_)
    refine ⟨h118_, ?_⟩
    refine ⟨h119_, ?_⟩
    refine ⟨h120_, ?_⟩
    intro h122_
    have h123_ := (h121_ h122_)
    exact h123_
  intro l2_12
  intro h124_
  intro g11
  rintro ⟨h125_, ⟨h126_, ⟨h127_, ⟨h128_, ⟨h129_, ⟨h130_, ⟨h131_, ⟨h132_, ⟨h133_, ⟨h134_, ⟨h135_, ⟨h136_, ⟨h137_, ⟨h138_, ⟨h139_, ⟨h140_, ⟨h141_, ⟨h142_, ⟨h143_, ⟨h144_, ⟨h145_, ⟨h146_, ⟨h147_, ⟨h148_, ⟨h149_, ⟨h150_, ⟨h151_, ⟨h152_, ⟨h153_, ⟨h154_, ⟨h155_, ⟨h156_, ⟨h157_, ⟨h158_, ⟨h159_, ⟨h160_, ⟨h161_, ⟨h162_, ⟨h163_, ⟨h164_, ⟨h165_, ⟨h166_, ⟨h167_, ⟨h168_, ⟨h169_, ⟨h170_, ⟨h171_, ⟨h172_, ⟨h173_, ⟨h174_, ⟨h175_, h176_⟩⟩⟩⟩⟩⟩⟩⟩⟩⟩⟩⟩⟩⟩⟩⟩⟩⟩⟩⟩⟩⟩⟩⟩⟩⟩⟩⟩⟩⟩⟩⟩⟩⟩⟩⟩⟩⟩⟩⟩⟩⟩⟩⟩⟩⟩⟩⟩⟩⟩⟩
  refine ⟨?_, ?_⟩
  · skip
    exact (la_expression_18 h126_ (sv_i01 (p := g11 1021 0 = 0)).1)
  intro h177_
  refine ⟨?_, ?_⟩
  · skip
    intro h178_
    have h179_ := (h173_ (la_expression_19 h128_ h178_))
    refine ⟨h151_, ?_⟩
    refine ⟨h126_, ?_⟩
    refine ⟨h128_, ?_⟩
    refine ⟨h154_, ?_⟩
    refine ⟨h155_, ?_⟩
    refine ⟨h132_, ?_⟩
    refine ⟨h133_, ?_⟩
    refine ⟨h158_, ?_⟩
    refine ⟨h159_, ?_⟩
    refine ⟨h160_, ?_⟩
    refine ⟨h161_, ?_⟩
    refine ⟨h137_, ?_⟩
    refine ⟨h138_, ?_⟩
    refine ⟨h164_, ?_⟩
    refine ⟨h165_, ?_⟩
    refine ⟨h166_, ?_⟩
    refine ⟨h167_, ?_⟩
    refine ⟨h168_, ?_⟩
    refine ⟨h142_, ?_⟩
    refine ⟨h141_, ?_⟩
    refine ⟨h171_, ?_⟩
    refine ⟨h172_, ?_⟩
    refine ⟨h173_, ?_⟩
    refine ⟨h174_, ?_⟩
    refine ⟨h175_, ?_⟩
    intro h180_
    refine ⟨?_, ?_⟩
    · skip
      exact ((la_expression_20 (la_expression_19 h128_ h178_) h180_)).elim
    refine ⟨?_, ?_⟩
    · skip
      exact ((la_expression_20 (la_expression_19 h128_ h178_) h180_)).elim
    refine ⟨?_, ?_⟩
    · skip
      exact ((la_expression_20 (la_expression_19 h128_ h178_) h180_)).elim
    intro h181_
    exact ((la_expression_20 (la_expression_19 h128_ h178_) h180_)).elim
  intro h182_
  obtain ⟨h183_, ⟨h184_, ⟨h185_, ⟨h186_, ⟨h187_, h188_⟩⟩⟩⟩⟩ := (h150_ (la_expression_21 h182_))
  obtain ⟨h189_, h190_⟩ := (h172_ (la_expression_21 h182_))
  obtain ⟨h191_, ⟨h192_, ⟨h193_, ⟨h194_, h195_⟩⟩⟩⟩ := (h134_ (la_expression_23 h128_ h182_))
  obtain ⟨h196_, ⟨h197_, ⟨h198_, ⟨h199_, ⟨h200_, ⟨h201_, ⟨h202_, ⟨h203_, ⟨h204_, ⟨h205_, ⟨h206_, ⟨h207_, ⟨h208_, ⟨h209_, h210_⟩⟩⟩⟩⟩⟩⟩⟩⟩⟩⟩⟩⟩⟩ := (h159_ (la_expression_23 h128_ h182_))
  obtain ⟨h211_, ⟨h212_, ⟨h213_, h214_⟩⟩⟩ := (h176_ (la_expression_23 h128_ h182_))
  refine ⟨(la_expression_24 h4_ (sm_TK_t h6_).2 h126_ h211_), ?_⟩
  refine ⟨(la_expression_25 h32_), ?_⟩
  refine ⟨?_, ?_⟩
  · skip
    intro h215_
    refine ⟨h151_, ?_⟩
    refine ⟨h126_, ?_⟩
    refine ⟨h128_, ?_⟩
    refine ⟨h154_, ?_⟩
    refine ⟨h155_, ?_⟩
    refine ⟨h132_, ?_⟩
    refine ⟨h133_, ?_⟩
    refine ⟨h158_, ?_⟩
    refine ⟨h159_, ?_⟩
    refine ⟨h160_, ?_⟩
    refine ⟨h161_, ?_⟩
    refine ⟨h137_, ?_⟩
    refine ⟨h138_, ?_⟩
    refine ⟨h164_, ?_⟩
    refine ⟨h165_, ?_⟩
    refine ⟨h166_, ?_⟩
    refine ⟨h167_, ?_⟩
    refine ⟨h168_, ?_⟩
    refine ⟨h142_, ?_⟩
    refine ⟨h141_, ?_⟩
    refine ⟨h171_, ?_⟩
    refine ⟨h172_, ?_⟩
    refine ⟨h173_, ?_⟩
    refine ⟨h174_, ?_⟩
    refine ⟨h175_, ?_⟩
    intro h216_
    refine ⟨h211_, ?_⟩
    refine ⟨h212_, ?_⟩
    refine ⟨h213_, ?_⟩
    intro h217_
    have h218_ := (h214_ h217_)
    exact h218_
  rintro ⟨h219_, h220_⟩
  intro h221_
  refine ⟨(la_expression_26 (sm_TK_t h6_).2 h125_ h126_), ?_⟩
  refine ⟨?_, ?_⟩
  · skip
    refine ⟨(la_expression_27 h4_ h211_), ?_⟩
    refine ⟨?_, ?_⟩
    · skip
      have h222_ := ((sm_TK_go h6_ (S 1020 0) h4_ h5_) h212_)
      have h223_ := ((sm_TK_go h6_ (g11 1020 0) h125_ h126_) (la_expression_28 h219_))
      have h224_ := (h223_ (la_expression_29 h219_))
      have e225_ : S 1100016 (g11 1043 0) = S 1100016 (S 1043 0) := congrArg ((S 1100016)) h165_
      exact h224_
    refine ⟨h6_, ?_⟩
    refine ⟨h128_, ?_⟩
    refine ⟨h8_, ?_⟩
    refine ⟨h9_, ?_⟩
    refine ⟨h131_, ?_⟩
    refine ⟨h132_, ?_⟩
    refine ⟨h133_, ?_⟩
    refine ⟨h134_, ?_⟩
    refine ⟨h135_, ?_⟩
    refine ⟨h136_, ?_⟩
    refine ⟨h137_, ?_⟩
    refine ⟨h138_, ?_⟩
    refine ⟨h139_, ?_⟩
    refine ⟨h140_, ?_⟩
    refine ⟨h141_, ?_⟩
    refine ⟨(la_expression_30 h142_), ?_⟩
    refine ⟨h143_, ?_⟩
    refine ⟨h144_, ?_⟩
    refine ⟨h145_, ?_⟩
    refine ⟨h146_, ?_⟩
    refine ⟨h147_, ?_⟩
    refine ⟨h148_, ?_⟩
    refine ⟨h149_, ?_⟩
    intro h226_
    refine ⟨h183_, ?_⟩
    refine ⟨h184_, ?_⟩
    refine ⟨h185_, ?_⟩
    refine ⟨(la_expression_31 h186_), ?_⟩
    refine ⟨h187_, ?_⟩
    exact h188_
  refine ⟨?_, ?_⟩
  · skip
    refine ⟨?_, ?_⟩
    · skip
      have e227_ : (if 0 < g11 1021 0 then 12 else 30 * (20 - g11 1023 0) + 25 : Int) = 30 * (20 - g11 1023 0) + 25 := if_neg (la_expression_22 h182_)
      have h228_ := ((sm_TK_go h6_ (S 1020 0) h4_ h5_) h212_)
      have h229_ := ((sm_TK_go h6_ (g11 1020 0) h125_ h126_) (la_expression_28 h219_))
      have h230_ := (h229_ (la_expression_29 h219_))
      have e231_ : S 1100016 (g11 1043 0) = S 1100016 (S 1043 0) := congrArg ((S 1100016)) h165_
      exact (la_expression_3 h184_ e227_)
    have e232_ : (if 0 < g11 1021 0 then 12 else 30 * (20 - g11 1023 0) + 25 : Int) = 30 * (20 - g11 1023 0) + 25 := if_neg (la_expression_22 h182_)
    have h233_ := ((sm_TK_go h6_ (S 1020 0) h4_ h5_) h212_)
    have h234_ := ((sm_TK_go h6_ (g11 1020 0) h125_ h126_) (la_expression_28 h219_))
    have h235_ := (h234_ (la_expression_29 h219_))
    have e236_ : S 1100016 (g11 1043 0) = S 1100016 (S 1043 0) := congrArg ((S 1100016)) h165_
    exact (la_expression_32 h42_ h189_ e232_)
  refine ⟨?_, ?_⟩
  · skip
    refine ⟨?_, ?_⟩
    · skip
      have e237_ : (if 0 < g11 1021 0 then 12 else 30 * (20 - g11 1023 0) + 25 : Int) = 30 * (20 - g11 1023 0) + 25 := if_neg (la_expression_22 h182_)
      have h238_ := ((sm_TK_go h6_ (S 1020 0) h4_ h5_) h212_)
      have h239_ := ((sm_TK_go h6_ (g11 1020 0) h125_ h126_) (la_expression_28 h219_))
      have h240_ := (h239_ (la_expression_29 h219_))
      have e241_ : S 1100016 (g11 1043 0) = S 1100016 (S 1043 0) := congrArg ((S 1100016)) h165_
      exact (la_expression_3 h184_ e237_)
    have e242_ : (if 0 < g11 1021 0 then 12 else 30 * (20 - g11 1023 0) + 25 : Int) = 30 * (20 - g11 1023 0) + 25 := if_neg (la_expression_22 h182_)
    have h243_ := ((sm_TK_go h6_ (S 1020 0) h4_ h5_) h212_)
    have h244_ := ((sm_TK_go h6_ (g11 1020 0) h125_ h126_) (la_expression_28 h219_))
    have h245_ := (h244_ (la_expression_29 h219_))
    have e246_ : S 1100016 (g11 1043 0) = S 1100016 (S 1043 0) := congrArg ((S 1100016)) h165_
    exact (la_expression_33 h189_ e242_)
  intro r33
  intro h247_
  intro g29
  rintro ⟨h248_, ⟨h249_, ⟨h250_, ⟨h251_, ⟨h252_, ⟨h253_, ⟨h254_, ⟨h255_, ⟨h256_, ⟨h257_, ⟨h258_, ⟨h259_, ⟨h260_, ⟨h261_, ⟨h262_, ⟨h263_, ⟨h264_, ⟨h265_, ⟨h266_, ⟨h267_, ⟨h268_, ⟨h269_, ⟨h270_, ⟨h271_, ⟨h272_, ⟨h273_, h274_⟩⟩⟩⟩⟩⟩⟩⟩⟩⟩⟩⟩⟩⟩⟩⟩⟩⟩⟩⟩⟩⟩⟩⟩⟩⟩
  have e275_ : (if 0 < g11 1021 0 then 12 else 30 * (20 - g11 1023 0) + 25 : Int) = 30 * (20 - g11 1023 0) + 25 := if_neg (la_expression_22 h182_)
  refine ⟨?_, ?_⟩
  · skip
    refine ⟨(la_expression_34 (sm_ex_e h213_).1 (sm_ex_e h213_).2.1 h268_), ?_⟩
    refine ⟨?_, ?_⟩
    · skip
      have h276_ := ((sm_TK_go h6_ (S 1020 0) h4_ h5_) h212_)
      have h277_ := ((sm_TK_go h6_ (g11 1020 0) h125_ h126_) (la_expression_28 h219_))
      have h278_ := (h277_ (la_expression_29 h219_))
      have e279_ : S 1100016 (g11 1043 0) = S 1100016 (S 1043 0) := congrArg ((S 1100016)) h165_
      exact (la_expression_35 (sm_TK_t h6_).2 h183_ h186_ h249_ h250_ h269_ h270_ e275_)
    refine ⟨(la_expression_10 h135_ h257_), ?_⟩
    exact (la_expression_11 h136_ h257_ h268_)
  intro r41
  intro h280_
  intro g37
  rintro ⟨h281_, ⟨h282_, ⟨h283_, ⟨h284_, ⟨h285_, ⟨h286_, ⟨h287_, ⟨h288_, ⟨h289_, ⟨h290_, ⟨h291_, ⟨h292_, ⟨h293_, ⟨h294_, ⟨h295_, ⟨h296_, ⟨h297_, ⟨h298_, ⟨h299_, h300_⟩⟩⟩⟩⟩⟩⟩⟩⟩⟩⟩⟩⟩⟩⟩⟩⟩⟩⟩
  refine ⟨(la_expression_36 h31_ h32_), ?_⟩
  refine ⟨(la_expression_37 h31_ h32_), ?_⟩
  intro h301_
  intro h302_
  refine ⟨?_, ?_⟩
  · skip
    refine ⟨(la_expression_38 h4_ h211_ h248_), ?_⟩
    refine ⟨h249_, ?_⟩
    refine ⟨h6_, ?_⟩
    refine ⟨h250_, ?_⟩
    refine ⟨h8_, ?_⟩
    refine ⟨h9_, ?_⟩
    refine ⟨(la_expression_7 h131_ h252_), ?_⟩
    refine ⟨h253_, ?_⟩
    refine ⟨h254_, ?_⟩
    refine ⟨?_, ?_⟩
    · skip
      intro h303_
      obtain ⟨h304_, h305_⟩ := (h269_ h303_)
      obtain ⟨h306_, ⟨h307_, ⟨h308_, ⟨h309_, ⟨h310_, ⟨h311_, ⟨h312_, ⟨h313_, ⟨h314_, ⟨h315_, ⟨h316_, ⟨h317_, ⟨h318_, ⟨h319_, h320_⟩⟩⟩⟩⟩⟩⟩⟩⟩⟩⟩⟩⟩⟩ := (h256_ h303_)
      obtain ⟨h321_, ⟨h322_, ⟨h323_, h324_⟩⟩⟩ := (h273_ h303_)
      obtain ⟨h325_, h326_⟩ := (h292_ h306_)
      have h327_ := (h296_ h309_)
      have h328_ := (h297_ h308_)
      have h329_ := (h300_ h320_)
      have h330_ := (h301_ h303_)
      have h331_ := (h302_ h303_)
      have h332_ := (h329_ la_expression_39)
      have h333_ := (h330_ h327_)
      have h334_ := (h331_ h325_)
      have h335_ := (h332_ la_expression_40)
      have h336_ := (h333_ h294_)
      have h337_ := (h334_ h326_)
      have h338_ := (h335_ la_expression_41)
      have h339_ := (h337_ (la_expression_42 h281_ (sm_ex_e h323_).1 (sm_ex_e h323_).2.1))
      have h340_ := (h338_ la_expression_43)
      have h341_ := (h339_ (la_expression_44 h281_ h282_))
      have h342_ := (h340_ la_expression_45)
      have h343_ := (h341_ h289_)
      have h344_ := (h342_ la_expression_46)
      have h345_ := (h343_ h283_)
      have h346_ := (h344_ la_expression_47)
      have h347_ := (h345_ (sm_ex_eq h284_ (sm_ex_N (sm_ex_w (sm_ex_px (sm_PX_le h307_ (Int.le_refl _)) h213_) (Int.le_refl _) (Int.le_refl _)) (la_expression_48 h268_ h282_))))
      have h348_ := (h347_ (la_expression_49 (sm_ex_e h213_).2.1 h268_ h281_ h284_))
      have h349_ := (h348_ (sm_ex_eq h285_ (sm_ex_N (sm_ex_w h323_ (la_expression_50 h189_) (la_expression_51 h189_)) (la_expression_52 h282_))))
      have h350_ := (h349_ (la_expression_53 h32_))
      have h351_ := (h350_ (la_expression_54 h32_))
      have h352_ := (h351_ (la_expression_55 h281_ h285_ (sm_ex_e h323_).2.1))
      refine ⟨h352_, ?_⟩
      refine ⟨h328_, ?_⟩
      refine ⟨h336_, ?_⟩
      refine ⟨?_, ?_⟩
      · skip
        have h353_ := (h291_ r41)
        have h354_ := ((sm_TK_go h6_ (g11 1020 0) h125_ h126_) (la_expression_28 h219_))
        have h355_ := ((sm_TK_go h6_ (S 1020 0) h4_ h5_) h212_)
        have h356_ := ((sm_TK_go h6_ (g11 1020 0 + 1) (la_expression_27 h4_ h211_) (la_expression_57 h249_ h321_)) h322_)
        have h357_ := (h354_ (la_expression_29 h219_))
        have e358_ : S 1100016 (g11 1043 0) = S 1100016 (S 1043 0) := congrArg ((S 1100016)) h165_
        have e359_ : S 1100016 (g29 1043 0) = S 1100016 (S 1043 0) := congrArg ((S 1100016)) (la_expression_59 h165_ h262_)
        have e360_ : S 1100016 (g29 1043 0) = S 1100016 (g11 1043 0) := congrArg ((S 1100016)) h262_
        have e361_ : g11 1100016 (g29 1043 0) = g11 1100016 (g11 1043 0) := congrArg ((g11 1100016)) h262_
        exact (la_expression_9 h194_ (sm_F1_at h317_ (g29 1043 0) (la_expression_8 h140_ h141_ h262_)) e361_)
      exact h346_
    refine ⟨(la_expression_10 h135_ h257_), ?_⟩
    refine ⟨(la_expression_60 h136_ h257_ h268_ h282_), ?_⟩
    refine ⟨h259_, ?_⟩
    refine ⟨h260_, ?_⟩
    refine ⟨(la_expression_12 h139_ h262_), ?_⟩
    refine ⟨(la_expression_13 h140_ h141_ h262_ h265_ h267_), ?_⟩
    refine ⟨h267_, ?_⟩
    refine ⟨h266_, ?_⟩
    refine ⟨(la_expression_12 h143_ h261_), ?_⟩
    refine ⟨(la_expression_14 h184_ h185_ h261_), ?_⟩
    refine ⟨(la_expression_12 h145_ h263_), ?_⟩
    refine ⟨(la_expression_15 h184_ h187_ h263_), ?_⟩
    refine ⟨(la_expression_12 h147_ h264_), ?_⟩
    refine ⟨(la_expression_15 h184_ h188_ h264_), ?_⟩
    refine ⟨(la_expression_61 h149_ h268_ h282_), ?_⟩
    refine ⟨(la_expression_62 h34_ h183_ h184_ h185_ h187_ h188_ h190_ h250_ h261_ h263_ h264_ h269_ h282_), ?_⟩
    refine ⟨(la_expression_63 h211_ h248_), ?_⟩
    refine ⟨h249_, ?_⟩
    refine ⟨h250_, ?_⟩
    refine ⟨(la_expression_64 h30_), ?_⟩
    refine ⟨(la_expression_65 h155_ h252_), ?_⟩
    refine ⟨h253_, ?_⟩
    refine ⟨h254_, ?_⟩
    refine ⟨(la_expression_66 h158_ h255_), ?_⟩
    refine ⟨?_, ?_⟩
    · skip
      intro h362_
      obtain ⟨h363_, h364_⟩ := (h269_ h362_)
      obtain ⟨h365_, ⟨h366_, ⟨h367_, ⟨h368_, ⟨h369_, ⟨h370_, ⟨h371_, ⟨h372_, ⟨h373_, ⟨h374_, ⟨h375_, ⟨h376_, ⟨h377_, ⟨h378_, h379_⟩⟩⟩⟩⟩⟩⟩⟩⟩⟩⟩⟩⟩⟩ := (h256_ h362_)
      obtain ⟨h380_, ⟨h381_, ⟨h382_, h383_⟩⟩⟩ := (h273_ h362_)
      obtain ⟨h384_, h385_⟩ := (h292_ h365_)
      have h386_ := (h296_ h368_)
      have h387_ := (h297_ h367_)
      have h388_ := (h300_ h379_)
      have h389_ := (h301_ h362_)
      have h390_ := (h302_ h362_)
      have h391_ := (h388_ la_expression_39)
      have h392_ := (h389_ h386_)
      have h393_ := (h390_ h384_)
      have h394_ := (h391_ la_expression_40)
      have h395_ := (h392_ h294_)
      have h396_ := (h393_ h385_)
      have h397_ := (h394_ la_expression_41)
      have h398_ := (h396_ (la_expression_42 h281_ (sm_ex_e h382_).1 (sm_ex_e h382_).2.1))
      have h399_ := (h397_ la_expression_43)
      have h400_ := (h398_ (la_expression_44 h281_ h282_))
      have h401_ := (h399_ la_expression_45)
      have h402_ := (h400_ h289_)
      have h403_ := (h401_ la_expression_46)
      have h404_ := (h402_ h283_)
      have h405_ := (h403_ la_expression_47)
      have h406_ := (h404_ (sm_ex_eq h284_ (sm_ex_N (sm_ex_w (sm_ex_px (sm_PX_le h366_ (Int.le_refl _)) h213_) (Int.le_refl _) (Int.le_refl _)) (la_expression_48 h268_ h282_))))
      have h407_ := (h406_ (la_expression_49 (sm_ex_e h213_).2.1 h268_ h281_ h284_))
      have h408_ := (h407_ (sm_ex_eq h285_ (sm_ex_N (sm_ex_w h382_ (la_expression_50 h189_) (la_expression_51 h189_)) (la_expression_52 h282_))))
      have h409_ := (h408_ (la_expression_53 h32_))
      have h410_ := (h409_ (la_expression_54 h32_))
      have h411_ := (h410_ (la_expression_55 h281_ h285_ (sm_ex_e h382_).2.1))
      refine ⟨h411_, ?_⟩
      refine ⟨(sm_PX_up_Ws (sm_PX_up_Lp (sm_PX_up_V (sm_PX_up_M (sm_PX_up_C (sm_PX_tr (sm_PX_tr (sm_PX_le h197_ (Int.le_refl _)) h366_ h171_) h293_ (la_expression_65 h171_ h268_)) (la_expression_67 h171_ h268_ h281_)) (la_expression_67 h171_ h268_ h281_)) (la_expression_67 h171_ h268_ h281_)) (la_expression_67 h171_ h268_ h281_)) (la_expression_67 h171_ h268_ h281_)), ?_⟩
      refine ⟨h387_, ?_⟩
      refine ⟨h395_, ?_⟩
      refine ⟨(sm_F1_tr (sm_F1_tr (sm_F1_le h200_ (Int.le_refl _)) h369_ h171_) h295_ (la_expression_65 h171_ h268_)), ?_⟩
      refine ⟨(sm_F1_tr (sm_F1_tr (sm_F1_le h201_ (Int.le_refl _)) h370_ h171_) h299_ (la_expression_65 h171_ h268_)), ?_⟩
      refine ⟨(sm_F1_tr (sm_F1_le h202_ (Int.le_refl _)) h371_ h168_), ?_⟩
      refine ⟨(sm_F1_tr (sm_F1_le h203_ (Int.le_refl _)) h372_ h168_), ?_⟩
      refine ⟨(sm_F1_tr (sm_F1_le h204_ (Int.le_refl _)) h373_ h168_), ?_⟩
      refine ⟨(sm_F1_tr (sm_F1_le h205_ (Int.le_refl _)) h374_ h168_), ?_⟩
      refine ⟨(sm_F1_tr (sm_F1_le h206_ (Int.le_refl _)) h375_ h168_), ?_⟩
      refine ⟨(sm_F1_tr (sm_F1_le h207_ (Int.le_refl _)) h376_ h168_), ?_⟩
      refine ⟨(sm_F1_tr (sm_F1_le h208_ (Int.le_refl _)) h377_ (la_expression_68 h168_)), ?_⟩
      refine ⟨(sm_FN_cat (sm_FN_F h209_ (sm_F1_le h376_ (Int.le_refl _)) (Int.le_refl _)) (sm_FN_w h378_ (Int.le_refl _) (Int.le_refl _)) (Int.le_refl _) (Int.le_refl _)), ?_⟩
      exact h405_
    refine ⟨(la_expression_59 h160_ h257_), ?_⟩
    refine ⟨(sm_KL_tr (sm_KL_le h161_ (Int.le_refl _)) (sm_KL_le h258_ (la_expression_69 h164_)) (Int.le_refl _)), ?_⟩
    refine ⟨h259_, ?_⟩
    refine ⟨h260_, ?_⟩
    refine ⟨(la_expression_59 h164_ h261_), ?_⟩
    refine ⟨(la_expression_59 h165_ h262_), ?_⟩
    refine ⟨(la_expression_59 h166_ h263_), ?_⟩
    refine ⟨(la_expression_59 h167_ h264_), ?_⟩
    refine ⟨(la_expression_65 h168_ h265_), ?_⟩
    refine ⟨h266_, ?_⟩
    refine ⟨h267_, ?_⟩
    refine ⟨(la_expression_70 h171_ h268_ h282_), ?_⟩
    refine ⟨(la_expression_71 h189_ h190_ h269_ h282_), ?_⟩
    refine ⟨(la_expression_72 h32_ h189_ h190_ h269_ h270_ e275_ h282_), ?_⟩
    refine ⟨(la_expression_73 h149_ h268_ h281_), ?_⟩
    refine ⟨?_, ?_⟩
    · skip
      have h412_ := (h291_ r41)
      have h413_ := ((sm_TK_go h6_ (S 1020 0) h4_ h5_) h212_)
      have h414_ := ((sm_TK_go h6_ (g11 1020 0) h125_ h126_) (la_expression_28 h219_))
      have h415_ := (h414_ (la_expression_29 h219_))
      have e416_ : S 1100016 (g11 1043 0) = S 1100016 (S 1043 0) := congrArg ((S 1100016)) h165_
      exact (la_expression_74 (sm_TK_t h6_).2 h183_ h186_ h249_ h250_ h269_ h270_ e275_ h281_)
    intro h417_
    obtain ⟨h418_, h419_⟩ := (h269_ h417_)
    obtain ⟨h420_, ⟨h421_, ⟨h422_, ⟨h423_, ⟨h424_, ⟨h425_, ⟨h426_, ⟨h427_, ⟨h428_, ⟨h429_, ⟨h430_, ⟨h431_, ⟨h432_, ⟨h433_, h434_⟩⟩⟩⟩⟩⟩⟩⟩⟩⟩⟩⟩⟩⟩ := (h256_ h417_)
    obtain ⟨h435_, ⟨h436_, ⟨h437_, h438_⟩⟩⟩ := (h273_ h417_)
    obtain ⟨h439_, h440_⟩ := (h292_ h420_)
    have h441_ := (h296_ h423_)
    have h442_ := (h297_ h422_)
    have h443_ := (h300_ h434_)
    have h444_ := (h301_ h417_)
    have h445_ := (h302_ h417_)
    have h446_ := (h443_ la_expression_39)
    have h447_ := (h444_ h441_)
    have h448_ := (h445_ h439_)
    have h449_ := (h446_ la_expression_40)
    have h450_ := (h447_ h294_)
    have h451_ := (h448_ h440_)
    have h452_ := (h449_ la_expression_41)
    have h453_ := (h451_ (la_expression_42 h281_ (sm_ex_e h437_).1 (sm_ex_e h437_).2.1))
    have h454_ := (h452_ la_expression_43)
    have h455_ := (h453_ (la_expression_44 h281_ h282_))
    have h456_ := (h454_ la_expression_45)
    have h457_ := (h455_ h289_)
    have h458_ := (h456_ la_expression_46)
    have h459_ := (h457_ h283_)
    have h460_ := (h458_ la_expression_47)
    have h461_ := (h459_ (sm_ex_eq h284_ (sm_ex_N (sm_ex_w (sm_ex_px (sm_PX_le h421_ (Int.le_refl _)) h213_) (Int.le_refl _) (Int.le_refl _)) (la_expression_48 h268_ h282_))))
    have h462_ := (h461_ (la_expression_49 (sm_ex_e h213_).2.1 h268_ h281_ h284_))
    have h463_ := (h462_ (sm_ex_eq h285_ (sm_ex_N (sm_ex_w h437_ (la_expression_50 h189_) (la_expression_51 h189_)) (la_expression_52 h282_))))
    have h464_ := (h463_ (la_expression_53 h32_))
    have h465_ := (h464_ (la_expression_54 h32_))
    have h466_ := (h465_ (la_expression_55 h281_ h285_ (sm_ex_e h437_).2.1))
    refine ⟨(la_expression_75 h211_ h435_), ?_⟩
    refine ⟨h212_, ?_⟩
    refine ⟨(sm_ex_if (la_expression_42 h281_ (sm_ex_e h437_).1 (sm_ex_e h437_).2.1) (la_expression_44 h281_ h282_) la_expression_76 la_expression_77 la_expression_78), ?_⟩
    intro h467_
    have h468_ := (h467_.resolve_left (la_expression_79 h283_))
    have h469_ := (h291_ r41)
    have e470_ : (if r41 = r41 then 17 * (20 - S 1023 0) + 17 else g29 1100002 r41 : Int) = 17 * (20 - S 1023 0) + 17 := if_pos la_expression_84
    have h471_ := ((sm_TK_go h6_ (g11 1020 0) h125_ h126_) (la_expression_28 h219_))
    have h472_ := ((sm_TK_go h6_ (S 1020 0) h4_ h5_) h212_)
    have h473_ := ((sm_TK_go h6_ (g11 1020 0 + 1) (la_expression_27 h4_ h211_) (la_expression_57 h249_ h435_)) h436_)
    have h474_ := (h471_ (la_expression_29 h219_))
    have e475_ : S 1100016 (g11 1043 0) = S 1100016 (S 1043 0) := congrArg ((S 1100016)) h165_
    have e476_ : g11 11 l2_12 = g11 11 (g37 12 (5 * r41)) := congrArg ((g11 11)) (la_expression_85 h284_)
    have e477_ : g11 1100001 l2_12 = g11 1100001 (g37 12 (5 * r41)) := congrArg ((g11 1100001)) (la_expression_85 h284_)
    have e478_ : g11 1100002 l2_12 = g11 1100002 (g37 12 (5 * r41)) := congrArg ((g11 1100002)) (la_expression_85 h284_)
    have e479_ : g11 1100003 l2_12 = g11 1100003 (g37 12 (5 * r41)) := congrArg ((g11 1100003)) (la_expression_85 h284_)
    have e480_ : g11 1100004 l2_12 = g11 1100004 (g37 12 (5 * r41)) := congrArg ((g11 1100004)) (la_expression_85 h284_)
    have e481_ : g11 1100005 l2_12 = g11 1100005 (g37 12 (5 * r41)) := congrArg ((g11 1100005)) (la_expression_85 h284_)
    have e482_ : g11 12 (5 * l2_12) = g11 12 (5 * g37 12 (5 * r41)) := congrArg ((g11 12)) (la_expression_86 h284_)
    have e483_ : g11 12 (5 * l2_12 + 1) = g11 12 (5 * g37 12 (5 * r41) + 1) := congrArg ((g11 12)) (la_expression_87 h284_)
    have e484_ : g11 12 (5 * l2_12 + 2) = g11 12 (5 * g37 12 (5 * r41) + 2) := congrArg ((g11 12)) (la_expression_88 h284_)
    have e485_ : g11 12 (5 * l2_12 + 3) = g11 12 (5 * g37 12 (5 * r41) + 3) := congrArg ((g11 12)) (la_expression_89 h284_)
    have e486_ : g11 12 (5 * l2_12 + 4) = g11 12 (5 * g37 12 (5 * r41) + 4) := congrArg ((g11 12)) (la_expression_90 h284_)
    have e487_ : g11 13 l2_12 = g11 13 (g37 12 (5 * r41)) := congrArg ((g11 13)) (la_expression_85 h284_)
    have e488_ : g29 11 l2_12 = g29 11 (g37 12 (5 * r41)) := congrArg ((g29 11)) (la_expression_85 h284_)
    have e489_ : g29 1100001 l2_12 = g29 1100001 (g37 12 (5 * r41)) := congrArg ((g29 1100001)) (la_expression_85 h284_)
    have e490_ : g29 1100002 l2_12 = g29 1100002 (g37 12 (5 * r41)) := congrArg ((g29 1100002)) (la_expression_85 h284_)
    have e491_ : g29 1100003 l2_12 = g29 1100003 (g37 12 (5 * r41)) := congrArg ((g29 1100003)) (la_expression_85 h284_)
    have e492_ : g29 1100004 l2_12 = g29 1100004 (g37 12 (5 * r41)) := congrArg ((g29 1100004)) (la_expression_85 h284_)
    have e493_ : g29 1100005 l2_12 = g29 1100005 (g37 12 (5 * r41)) := congrArg ((g29 1100005)) (la_expression_85 h284_)
    have e494_ : g29 12 (5 * l2_12) = g29 12 (5 * g37 12 (5 * r41)) := congrArg ((g29 12)) (la_expression_86 h284_)
    have e495_ : g29 12 (5 * l2_12 + 1) = g29 12 (5 * g37 12 (5 * r41) + 1) := congrArg ((g29 12)) (la_expression_87 h284_)
    have e496_ : g29 12 (5 * l2_12 + 2) = g29 12 (5 * g37 12 (5 * r41) + 2) := congrArg ((g29 12)) (la_expression_88 h284_)
    have e497_ : g29 12 (5 * l2_12 + 3) = g29 12 (5 * g37 12 (5 * r41) + 3) := congrArg ((g29 12)) (la_expression_89 h284_)
    have e498_ : g29 12 (5 * l2_12 + 4) = g29 12 (5 * g37 12 (5 * r41) + 4) := congrArg ((g29 12)) (la_expression_90 h284_)
    have e499_ : g29 13 l2_12 = g29 13 (g37 12 (5 * r41)) := congrArg ((g29 13)) (la_expression_85 h284_)
    have e500_ : g37 11 l2_12 = g37 11 (g37 12 (5 * r41)) := congrArg ((g37 11)) (la_expression_85 h284_)
    have e501_ : g37 13 l2_12 = g37 13 (g37 12 (5 * r41)) := congrArg ((g37 13)) (la_expression_85 h284_)
    exact ((la_expression_91 h283_ h468_)).elim
  have h502_ := (h291_ r41)
  have e503_ : (if g11 1021 0 = 0 then 1 else 0 : Int) = 1 := if_pos (la_expression_23 h128_ h182_)
  have h504_ := ((sm_TK_go h6_ (S 1020 0) h4_ h5_) h212_)
  have h505_ := ((sm_TK_go h6_ (g11 1020 0) h125_ h126_) (la_expression_28 h219_))
  have h506_ := (h505_ (la_expression_29 h219_))
  have e507_ : S 1100016 (g11 1043 0) = S 1100016 (S 1043 0) := congrArg ((S 1100016)) h165_
  exact (la_expression_92 h248_ e503_ (sv_i01 (p := g29 1021 0 = 0)).2)
set_option maxRecDepth 8000 in
set_option maxHeartbeats 2000000 in
theorem s_expression (d : Int) (h0 : 0 ≤ d) (IH : ∀ d' : Int, 0 ≤ d' → d' < d → P_P d') : T_expression d := by
  intro p1 S hok hp1 hpre hd
  have h := f_expression d p1 S hok hp1 hpre hd
  have hM := sm_h43
  show sv_T sm_XS sm_cs sm_L sm_sh (30 * (20 - (S 1023 0)) + 26).toNat (q_expression p1 S) 43 0 [(0, .ref 0), (1, sv_I p1)] [] S
  refine sv_aload_n hM dX12_expression_0 rfl rfl ?_
  refine sv_iload_n hM dX12_expression_1 rfl rfl ?_
  obtain ⟨o1, h⟩ := h
  obtain ⟨o2, h⟩ := h
  obtain ⟨o3, h⟩ := h
  obtain ⟨o4, h⟩ := h
  refine sv_callV hM dX12_expression_2 sm_iv_442 (by decide) (sm_a0 _) rfl rfl (Nat.le_of_ble_eq_true rfl) sm_h47 (Nat.le_of_ble_eq_true rfl) (Nat.le_of_ble_eq_true rfl) (F' := (((if 0 < (S 1021 0) then 12 else 30 * (20 - (S 1023 0)) + 25))).toNat) (sv_Fe o4) rfl ((IH ((if 0 < (S 1021 0) then 12 else 30 * (20 - (S 1023 0)) + 25)) o3.1 o3.2).2.2.1 p1 S hok o1 o2 rfl) (fun v S1 hq => ?_)
  obtain ⟨r9, rfl, hr9, ok6, md7, hpo8⟩ := hq
  obtain ⟨g5, rfl⟩ : ∃ g, S1 = sv_sts S [1020, 1021, 1022, 1023, 5, 1011, 3, 4, 1007, 1009, 11, 12, 13, 14, 1024, 15, 16, 1031, 1032, 17, 18, 19, 20, 21, 22, 23, 24, 25, 1042, 1043, 1044, 1045, 1100001, 1100002, 1100005, 1100003, 1100004, 1100018, 1100019, 1100016, 1100035, 1100036] g := ⟨_, md7.eq⟩
  show sv_T sm_XS sm_cs sm_L sm_sh (30 * (20 - (S 1023 0)) + 26).toNat (q_expression p1 S) 43 5 [(0, .ref 0), (1, sv_I p1)] [sv_I r9] (sv_sts S [1020, 1021, 1022, 1023, 5, 1011, 3, 4, 1007, 1009, 11, 12, 13, 14, 1024, 15, 16, 1031, 1032, 17, 18, 19, 20, 21, 22, 23, 24, 25, 1042, 1043, 1044, 1045, 1100001, 1100002, 1100005, 1100003, 1100004, 1100018, 1100019, 1100016, 1100035, 1100036] g5)
  have md10 : sv_mod [1020, 1021, 1022, 1023, 5, 1011, 3, 4, 1007, 1009, 11, 12, 13, 14, 1024, 15, 16, 1031, 1032, 17, 18, 19, 20, 21, 22, 23, 24, 25, 1042, 1043, 1044, 1045, 1100001, 1100002, 1100005, 1100003, 1100004, 1100018, 1100019, 1100016, 1100035, 1100036] S (sv_sts S [1020, 1021, 1022, 1023, 5, 1011, 3, 4, 1007, 1009, 11, 12, 13, 14, 1024, 15, 16, 1031, 1032, 17, 18, 19, 20, 21, 22, 23, 24, 25, 1042, 1043, 1044, 1045, 1100001, 1100002, 1100005, 1100003, 1100004, 1100018, 1100019, 1100016, 1100035, 1100036] g5) := sv_mod.sts sv_mod.rf (by decide)
  have h := h r9 hr9 g5 hpo8
  refine sv_istore_n hM dX12_expression_5 (by decide) rfl ?_
  show sv_T sm_XS sm_cs sm_L sm_sh (30 * (20 - (S 1023 0)) + 26).toNat (q_expression p1 S) 43 6 [(0, .ref 0), (1, sv_I p1), (2, sv_I r9)] [] (sv_sts S [1020, 1021, 1022, 1023, 5, 1011, 3, 4, 1007, 1009, 11, 12, 13, 14, 1024, 15, 16, 1031, 1032, 17, 18, 19, 20, 21, 22, 23, 24, 25, 1042, 1043, 1044, 1045, 1100001, 1100002, 1100005, 1100003, 1100004, 1100018, 1100019, 1100016, 1100035, 1100036] g5)
  obtain ⟨hin14, h⟩ := h
  have hJ : ∀ a : Int × sv_S, (sv_R a.1 ∧ sm_ok (sv_sts (sv_sts S [1020, 1021, 1022, 1023, 5, 1011, 3, 4, 1007, 1009, 11, 12, 13, 14, 1024, 15, 16, 1031, 1032, 17, 18, 19, 20, 21, 22, 23, 24, 25, 1042, 1043, 1044, 1045, 1100001, 1100002, 1100005, 1100003, 1100004, 1100018, 1100019, 1100016, 1100035, 1100036] g5) [1020, 1021, 1022, 1023, 5, 1011, 3, 4, 1007, 1009, 11, 12, 13, 14, 1024, 15, 16, 1031, 1032, 17, 18, 19, 20, 21, 22, 23, 24, 25, 1042, 1043, 1044, 1045, 1100001, 1100002, 1100005, 1100003, 1100004, 1100018, 1100019, 1100016, 1100035, 1100036] a.2) ∧ (0 ≤ (a.2 1020 0) ∧ (a.2 1020 0) < (S 1012 0) ∧ sm_TK (S 6) (S 8) (S 9) (S 10) (S 1012 0) ∧ 0 ≤ (a.2 1021 0) ∧ 0 ≤ (S 1004 0) ∧ (S 1004 0) ≤ 4000 ∧ 1 ≤ (a.2 1007 0) ∧ (a.2 1007 0) ≤ 90 ∧ sm_LN (a.2 4) 400 (a.2 1007 0) ∧ ((a.2 1021 0) = 0 → sm_WF (a.2 11) (a.2 12) (a.2 13) (a.2 1100001) (a.2 1100002) (a.2 1100005) (a.2 1100003) (a.2 1100004) (a.2 1024 0) (a.2 1007 0) (a.2 1009 0) (sm_fn (a.2 1032 0) (a.2 21) (a.2 1043 0)) ∧ sm_FT (a.2 11) (a.2 12) (a.2 13) (a.2 1100019) (a.2 17) (a.2 18) (a.2 21) (a.2 19) (a.2 20) (a.2 22) (a.2 1100016) (a.2 1024 0) (a.2 1007 0) (a.2 1009 0) (a.2 1032 0) (a.2 1032 0) ∧ sm_WG (a.2 1100001) (a.2 1100019) (a.2 1043 0) ∧ (a.2 1100016 (a.2 1043 0)) = 0 ∧ sm_RG (a.2 11) (a.2 12) (a.2 13) (a.2 1100035) (a.2 1024 0)) ∧ -1 ≤ (a.2 1100036 0) ∧ (a.2 1100036 0) < (a.2 1024 0) ∧ sm_HD (a.2 23) (a.2 24) (a.2 1100018 0) (a.2 1007 0) ∧ sm_HD (a.2 25) (fun _ : Int => (a.2 1042 0)) 1 (a.2 1007 0) ∧ 0 ≤ (a.2 1043 0) ∧ (a.2 1043 0) < (a.2 1100018 0) ∧ (a.2 1100018 0) = (a.2 1032 0) ∧ (a.2 1032 0) ≤ 1 + (a.2 1020 0) ∧ 0 ≤ (a.2 1031 0) ∧ (a.2 1031 0) ≤ 100 ∧ 0 ≤ (a.2 1044 0) ∧ (a.2 1044 0) ≤ 30 ∧ 0 ≤ (a.2 1045 0) ∧ (a.2 1045 0) ≤ 30 ∧ 0 ≤ (a.2 1024 0) ∧ ((a.2 1021 0) = 0 → 0 ≤ (a.2 1023 0) ∧ (a.2 1023 0) ≤ 20 ∧ (a.2 1031 0) ≤ 3 * (a.2 1023 0) + 5 ∧ (a.2 1024 0) ≤ 2 * (a.2 1020 0) ∧ (a.2 1044 0) ≤ (a.2 1023 0) ∧ (a.2 1045 0) ≤ (a.2 1023 0)) ∧ (S 1020 0) ≤ (a.2 1020 0) ∧ (a.2 1020 0) < (S 1012 0) ∧ 0 ≤ (a.2 1021 0) ∧ (0 < (S 1021 0) → 0 < (a.2 1021 0)) ∧ (S 1007 0) ≤ (a.2 1007 0) ∧ (a.2 1007 0) ≤ 90 ∧ sm_LN (a.2 4) 400 (a.2 1007 0) ∧ ((S 1009 0) = 1 → (a.2 1009 0) = 1) ∧ ((a.2 1021 0) = 0 → sm_WF (a.2 11) (a.2 12) (a.2 13) (a.2 1100001) (a.2 1100002) (a.2 1100005) (a.2 1100003) (a.2 1100004) (a.2 1024 0) (a.2 1007 0) (a.2 1009 0) (sm_fn (a.2 1032 0) (a.2 21) (a.2 1043 0)) ∧ sm_PX (S 11) (S 12) (S 13) (S 1100001) (S 1100002) (S 1100005) (S 1100003) (S 1100004) (a.2 11) (a.2 12) (a.2 13) (a.2 1100001) (a.2 1100002) (a.2 1100005) (a.2 1100003) (a.2 1100004) (S 1024 0) ∧ sm_FT (a.2 11) (a.2 12) (a.2 13) (a.2 1100019) (a.2 17) (a.2 18) (a.2 21) (a.2 19) (a.2 20) (a.2 22) (a.2 1100016) (a.2 1024 0) (a.2 1007 0) (a.2 1009 0) (a.2 1032 0) (a.2 1032 0) ∧ sm_WG (a.2 1100001) (a.2 1100019) (a.2 1043 0) ∧ sm_F1 (S 1100019) (a.2 1100019) (S 1024 0) ∧ sm_F1 (S 1100035) (a.2 1100035) (S 1024 0) ∧ sm_F1 (S 17) (a.2 17) (S 1032 0) ∧ sm_F1 (S 18) (a.2 18) (S 1032 0) ∧ sm_F1 (S 21) (a.2 21) (S 1032 0) ∧ sm_F1 (S 20) (a.2 20) (S 1032 0) ∧ sm_F1 (S 22) (a.2 22) (S 1032 0) ∧ sm_F1 (S 1100016) (a.2 1100016) (S 1032 0) ∧ sm_F1 (S 19) (a.2 19) (8 * (S 1032 0)) ∧ sm_FN (a.2 1100016) (S 1032 0) (a.2 1032 0) ∧ sm_RG (a.2 11) (a.2 12) (a.2 13) (a.2 1100035) (a.2 1024 0)) ∧ (a.2 1100036 0) = (S 1100036 0) ∧ sm_KL (S 15) (S 16) (a.2 15) (a.2 16) (S 1031 0) ∧ sm_HD (a.2 23) (a.2 24) (a.2 1100018 0) (a.2 1007 0) ∧ sm_HD (a.2 25) (fun _ : Int => (a.2 1042 0)) 1 (a.2 1007 0) ∧ (a.2 1031 0) = (S 1031 0) ∧ (a.2 1043 0) = (S 1043 0) ∧ (a.2 1044 0) = (S 1044 0) ∧ (a.2 1045 0) = (S 1045 0) ∧ (S 1032 0) ≤ (a.2 1032 0) ∧ (a.2 1032 0) ≤ 1 + (a.2 1020 0) ∧ (a.2 1100018 0) = (a.2 1032 0) ∧ (S 1024 0) ≤ (a.2 1024 0) ∧ ((a.2 1021 0) = 0 → (a.2 1023 0) = (S 1023 0) ∧ (a.2 1024 0) + 1 ≤ (S 1024 0) + 2 * ((a.2 1020 0) - (S 1020 0))) ∧ (0 < (a.2 1021 0) → (a.2 1024 0) ≤ (S 1024 0) + 2 * ((a.2 1020 0) - (S 1020 0)) + 2 * (30 * (20 - (S 1023 0)) + 26)) ∧ -1 ≤ a.1 ∧ a.1 < 12000 ∧ ((a.2 1021 0) = 0 → (S 1020 0) < (a.2 1020 0) ∧ 1 ≤ (S 6 (S 1020 0)) ∧ sm_ex (a.2 1100001) (a.2 1100002) (a.2 1100005) (a.2 1024 0) 1 a.1 (17 * (20 - (S 1023 0)) + 17) (20 - (S 1023 0)) ∧ ((a.2 11 a.1) = 2 ∨ (a.2 11 a.1) = 7 → (a.2 1100002 a.1) ≤ 17 * (20 - (S 1023 0)) + 2)))) → sv_T sm_XS sm_cs sm_L sm_sh (30 * (20 - (S 1023 0)) + 26).toNat (q_expression p1 S) 43 6 [(0, .ref 0), (1, sv_I p1), (2, sv_I a.1)] [] (sv_sts (sv_sts S [1020, 1021, 1022, 1023, 5, 1011, 3, 4, 1007, 1009, 11, 12, 13, 14, 1024, 15, 16, 1031, 1032, 17, 18, 19, 20, 21, 22, 23, 24, 25, 1042, 1043, 1044, 1045, 1100001, 1100002, 1100005, 1100003, 1100004, 1100018, 1100019, 1100016, 1100035, 1100036] g5) [1020, 1021, 1022, 1023, 5, 1011, 3, 4, 1007, 1009, 11, 12, 13, 14, 1024, 15, 16, 1031, 1032, 17, 18, 19, 20, 21, 22, 23, 24, 25, 1042, 1043, 1044, 1045, 1100001, 1100002, 1100005, 1100003, 1100004, 1100018, 1100019, 1100016, 1100035, 1100036] a.2) := by
    refine sv_loop (α := Int × sv_S) (fun a => sv_R a.1 ∧ sm_ok (sv_sts (sv_sts S [1020, 1021, 1022, 1023, 5, 1011, 3, 4, 1007, 1009, 11, 12, 13, 14, 1024, 15, 16, 1031, 1032, 17, 18, 19, 20, 21, 22, 23, 24, 25, 1042, 1043, 1044, 1045, 1100001, 1100002, 1100005, 1100003, 1100004, 1100018, 1100019, 1100016, 1100035, 1100036] g5) [1020, 1021, 1022, 1023, 5, 1011, 3, 4, 1007, 1009, 11, 12, 13, 14, 1024, 15, 16, 1031, 1032, 17, 18, 19, 20, 21, 22, 23, 24, 25, 1042, 1043, 1044, 1045, 1100001, 1100002, 1100005, 1100003, 1100004, 1100018, 1100019, 1100016, 1100035, 1100036] a.2) ∧ (0 ≤ (a.2 1020 0) ∧ (a.2 1020 0) < (S 1012 0) ∧ sm_TK (S 6) (S 8) (S 9) (S 10) (S 1012 0) ∧ 0 ≤ (a.2 1021 0) ∧ 0 ≤ (S 1004 0) ∧ (S 1004 0) ≤ 4000 ∧ 1 ≤ (a.2 1007 0) ∧ (a.2 1007 0) ≤ 90 ∧ sm_LN (a.2 4) 400 (a.2 1007 0) ∧ ((a.2 1021 0) = 0 → sm_WF (a.2 11) (a.2 12) (a.2 13) (a.2 1100001) (a.2 1100002) (a.2 1100005) (a.2 1100003) (a.2 1100004) (a.2 1024 0) (a.2 1007 0) (a.2 1009 0) (sm_fn (a.2 1032 0) (a.2 21) (a.2 1043 0)) ∧ sm_FT (a.2 11) (a.2 12) (a.2 13) (a.2 1100019) (a.2 17) (a.2 18) (a.2 21) (a.2 19) (a.2 20) (a.2 22) (a.2 1100016) (a.2 1024 0) (a.2 1007 0) (a.2 1009 0) (a.2 1032 0) (a.2 1032 0) ∧ sm_WG (a.2 1100001) (a.2 1100019) (a.2 1043 0) ∧ (a.2 1100016 (a.2 1043 0)) = 0 ∧ sm_RG (a.2 11) (a.2 12) (a.2 13) (a.2 1100035) (a.2 1024 0)) ∧ -1 ≤ (a.2 1100036 0) ∧ (a.2 1100036 0) < (a.2 1024 0) ∧ sm_HD (a.2 23) (a.2 24) (a.2 1100018 0) (a.2 1007 0) ∧ sm_HD (a.2 25) (fun _ : Int => (a.2 1042 0)) 1 (a.2 1007 0) ∧ 0 ≤ (a.2 1043 0) ∧ (a.2 1043 0) < (a.2 1100018 0) ∧ (a.2 1100018 0) = (a.2 1032 0) ∧ (a.2 1032 0) ≤ 1 + (a.2 1020 0) ∧ 0 ≤ (a.2 1031 0) ∧ (a.2 1031 0) ≤ 100 ∧ 0 ≤ (a.2 1044 0) ∧ (a.2 1044 0) ≤ 30 ∧ 0 ≤ (a.2 1045 0) ∧ (a.2 1045 0) ≤ 30 ∧ 0 ≤ (a.2 1024 0) ∧ ((a.2 1021 0) = 0 → 0 ≤ (a.2 1023 0) ∧ (a.2 1023 0) ≤ 20 ∧ (a.2 1031 0) ≤ 3 * (a.2 1023 0) + 5 ∧ (a.2 1024 0) ≤ 2 * (a.2 1020 0) ∧ (a.2 1044 0) ≤ (a.2 1023 0) ∧ (a.2 1045 0) ≤ (a.2 1023 0)) ∧ (S 1020 0) ≤ (a.2 1020 0) ∧ (a.2 1020 0) < (S 1012 0) ∧ 0 ≤ (a.2 1021 0) ∧ (0 < (S 1021 0) → 0 < (a.2 1021 0)) ∧ (S 1007 0) ≤ (a.2 1007 0) ∧ (a.2 1007 0) ≤ 90 ∧ sm_LN (a.2 4) 400 (a.2 1007 0) ∧ ((S 1009 0) = 1 → (a.2 1009 0) = 1) ∧ ((a.2 1021 0) = 0 → sm_WF (a.2 11) (a.2 12) (a.2 13) (a.2 1100001) (a.2 1100002) (a.2 1100005) (a.2 1100003) (a.2 1100004) (a.2 1024 0) (a.2 1007 0) (a.2 1009 0) (sm_fn (a.2 1032 0) (a.2 21) (a.2 1043 0)) ∧ sm_PX (S 11) (S 12) (S 13) (S 1100001) (S 1100002) (S 1100005) (S 1100003) (S 1100004) (a.2 11) (a.2 12) (a.2 13) (a.2 1100001) (a.2 1100002) (a.2 1100005) (a.2 1100003) (a.2 1100004) (S 1024 0) ∧ sm_FT (a.2 11) (a.2 12) (a.2 13) (a.2 1100019) (a.2 17) (a.2 18) (a.2 21) (a.2 19) (a.2 20) (a.2 22) (a.2 1100016) (a.2 1024 0) (a.2 1007 0) (a.2 1009 0) (a.2 1032 0) (a.2 1032 0) ∧ sm_WG (a.2 1100001) (a.2 1100019) (a.2 1043 0) ∧ sm_F1 (S 1100019) (a.2 1100019) (S 1024 0) ∧ sm_F1 (S 1100035) (a.2 1100035) (S 1024 0) ∧ sm_F1 (S 17) (a.2 17) (S 1032 0) ∧ sm_F1 (S 18) (a.2 18) (S 1032 0) ∧ sm_F1 (S 21) (a.2 21) (S 1032 0) ∧ sm_F1 (S 20) (a.2 20) (S 1032 0) ∧ sm_F1 (S 22) (a.2 22) (S 1032 0) ∧ sm_F1 (S 1100016) (a.2 1100016) (S 1032 0) ∧ sm_F1 (S 19) (a.2 19) (8 * (S 1032 0)) ∧ sm_FN (a.2 1100016) (S 1032 0) (a.2 1032 0) ∧ sm_RG (a.2 11) (a.2 12) (a.2 13) (a.2 1100035) (a.2 1024 0)) ∧ (a.2 1100036 0) = (S 1100036 0) ∧ sm_KL (S 15) (S 16) (a.2 15) (a.2 16) (S 1031 0) ∧ sm_HD (a.2 23) (a.2 24) (a.2 1100018 0) (a.2 1007 0) ∧ sm_HD (a.2 25) (fun _ : Int => (a.2 1042 0)) 1 (a.2 1007 0) ∧ (a.2 1031 0) = (S 1031 0) ∧ (a.2 1043 0) = (S 1043 0) ∧ (a.2 1044 0) = (S 1044 0) ∧ (a.2 1045 0) = (S 1045 0) ∧ (S 1032 0) ≤ (a.2 1032 0) ∧ (a.2 1032 0) ≤ 1 + (a.2 1020 0) ∧ (a.2 1100018 0) = (a.2 1032 0) ∧ (S 1024 0) ≤ (a.2 1024 0) ∧ ((a.2 1021 0) = 0 → (a.2 1023 0) = (S 1023 0) ∧ (a.2 1024 0) + 1 ≤ (S 1024 0) + 2 * ((a.2 1020 0) - (S 1020 0))) ∧ (0 < (a.2 1021 0) → (a.2 1024 0) ≤ (S 1024 0) + 2 * ((a.2 1020 0) - (S 1020 0)) + 2 * (30 * (20 - (S 1023 0)) + 26)) ∧ -1 ≤ a.1 ∧ a.1 < 12000 ∧ ((a.2 1021 0) = 0 → (S 1020 0) < (a.2 1020 0) ∧ 1 ≤ (S 6 (S 1020 0)) ∧ sm_ex (a.2 1100001) (a.2 1100002) (a.2 1100005) (a.2 1024 0) 1 a.1 (17 * (20 - (S 1023 0)) + 17) (20 - (S 1023 0)) ∧ ((a.2 11 a.1) = 2 ∨ (a.2 11 a.1) = 7 → (a.2 1100002 a.1) ≤ 17 * (20 - (S 1023 0)) + 2)))) (fun a => 2 * ((S 1012 0) - (a.2 1020 0)) + (if (a.2 1021 0) = 0 then 1 else 0)) (fun a => sv_T sm_XS sm_cs sm_L sm_sh (30 * (20 - (S 1023 0)) + 26).toNat (q_expression p1 S) 43 6 [(0, .ref 0), (1, sv_I p1), (2, sv_I a.1)] [] (sv_sts (sv_sts S [1020, 1021, 1022, 1023, 5, 1011, 3, 4, 1007, 1009, 11, 12, 13, 14, 1024, 15, 16, 1031, 1032, 17, 18, 19, 20, 21, 22, 23, 24, 25, 1042, 1043, 1044, 1045, 1100001, 1100002, 1100005, 1100003, 1100004, 1100018, 1100019, 1100016, 1100035, 1100036] g5) [1020, 1021, 1022, 1023, 5, 1011, 3, 4, 1007, 1009, 11, 12, 13, 14, 1024, 15, 16, 1031, 1032, 17, 18, 19, 20, 21, 22, 23, 24, 25, 1042, 1043, 1044, 1045, 1100001, 1100002, 1100005, 1100003, 1100004, 1100018, 1100019, 1100016, 1100035, 1100036] a.2)) (fun a q => (h a.1 q.1 a.2 q.2.2).1) (fun a q ih13 => ?_)
    obtain ⟨l2_12, g11⟩ := a
    obtain ⟨hl2_12, ok15, hin14i⟩ := q
    have h := (h l2_12 hl2_12 g11 hin14i).2
    show sv_T sm_XS sm_cs sm_L sm_sh (30 * (20 - (S 1023 0)) + 26).toNat (q_expression p1 S) 43 6 [(0, .ref 0), (1, sv_I p1), (2, sv_I l2_12)] [] (sv_sts (sv_sts S [1020, 1021, 1022, 1023, 5, 1011, 3, 4, 1007, 1009, 11, 12, 13, 14, 1024, 15, 16, 1031, 1032, 17, 18, 19, 20, 21, 22, 23, 24, 25, 1042, 1043, 1044, 1045, 1100001, 1100002, 1100005, 1100003, 1100004, 1100018, 1100019, 1100016, 1100035, 1100036] g5) [1020, 1021, 1022, 1023, 5, 1011, 3, 4, 1007, 1009, 11, 12, 13, 14, 1024, 15, 16, 1031, 1032, 17, 18, 19, 20, 21, 22, 23, 24, 25, 1042, 1043, 1044, 1045, 1100001, 1100002, 1100005, 1100003, 1100004, 1100018, 1100019, 1100016, 1100035, 1100036] g11)
    have md16 : sv_mod [1020, 1021, 1022, 1023, 5, 1011, 3, 4, 1007, 1009, 11, 12, 13, 14, 1024, 15, 16, 1031, 1032, 17, 18, 19, 20, 21, 22, 23, 24, 25, 1042, 1043, 1044, 1045, 1100001, 1100002, 1100005, 1100003, 1100004, 1100018, 1100019, 1100016, 1100035, 1100036] S (sv_sts (sv_sts S [1020, 1021, 1022, 1023, 5, 1011, 3, 4, 1007, 1009, 11, 12, 13, 14, 1024, 15, 16, 1031, 1032, 17, 18, 19, 20, 21, 22, 23, 24, 25, 1042, 1043, 1044, 1045, 1100001, 1100002, 1100005, 1100003, 1100004, 1100018, 1100019, 1100016, 1100035, 1100036] g5) [1020, 1021, 1022, 1023, 5, 1011, 3, 4, 1007, 1009, 11, 12, 13, 14, 1024, 15, 16, 1031, 1032, 17, 18, 19, 20, 21, 22, 23, 24, 25, 1042, 1043, 1044, 1045, 1100001, 1100002, 1100005, 1100003, 1100004, 1100018, 1100019, 1100016, 1100035, 1100036] g11) := sv_mod.sts md10 (by decide)
    have md17 : sv_mod [1020, 1021, 1022, 1023, 5, 1011, 3, 4, 1007, 1009, 11, 12, 13, 14, 1024, 15, 16, 1031, 1032, 17, 18, 19, 20, 21, 22, 23, 24, 25, 1042, 1043, 1044, 1045, 1100001, 1100002, 1100005, 1100003, 1100004, 1100018, 1100019, 1100016, 1100035, 1100036] (sv_sts S [1020, 1021, 1022, 1023, 5, 1011, 3, 4, 1007, 1009, 11, 12, 13, 14, 1024, 15, 16, 1031, 1032, 17, 18, 19, 20, 21, 22, 23, 24, 25, 1042, 1043, 1044, 1045, 1100001, 1100002, 1100005, 1100003, 1100004, 1100018, 1100019, 1100016, 1100035, 1100036] g5) (sv_sts (sv_sts S [1020, 1021, 1022, 1023, 5, 1011, 3, 4, 1007, 1009, 11, 12, 13, 14, 1024, 15, 16, 1031, 1032, 17, 18, 19, 20, 21, 22, 23, 24, 25, 1042, 1043, 1044, 1045, 1100001, 1100002, 1100005, 1100003, 1100004, 1100018, 1100019, 1100016, 1100035, 1100036] g5) [1020, 1021, 1022, 1023, 5, 1011, 3, 4, 1007, 1009, 11, 12, 13, 14, 1024, 15, 16, 1031, 1032, 17, 18, 19, 20, 21, 22, 23, 24, 25, 1042, 1043, 1044, 1045, 1100001, 1100002, 1100005, 1100003, 1100004, 1100018, 1100019, 1100016, 1100035, 1100036] g11) := sv_mod.sts sv_mod.rf (by decide)
    refine sv_aload_n hM dX12_expression_6 rfl rfl ?_
    have k18 : sv_R (g11 1021 0) := sm_okI ok15 sm_r1021 0
    have h := h k18
    refine sv_getI hM dX12_expression_7 sm_fl_389 (sm_a0 _) sm_k21 rfl (x := (g11 1021 0)) rfl ?_
    refine sv_cond_ne hM dX12_expression_10 k18 (t := 48) rfl rfl (fun hc => ?_) (fun hc => ?_)
    · have h := h.1 (hc)
      refine sv_iload_n hM dX12_expression_48 rfl rfl ?_
      exact sv_iret hM dX12_expression_49 rfl rfl ⟨l2_12, rfl, hl2_12, ok15, md16, h⟩
    · have h := h.2 (hc)
      refine sv_aload_n hM dX12_expression_13 rfl rfl ?_
      refine sv_bipush (d := (32 : Int)) hM dX12_expression_14 rfl rfl ?_
      obtain ⟨o19, h⟩ := h
      obtain ⟨o20, h⟩ := h
      refine sv_callV hM dX12_expression_16 sm_iv_398 (by decide) (sm_a0 _) rfl rfl (Nat.le_of_ble_eq_true rfl) sm_h24 (Nat.le_of_ble_eq_true rfl) (Nat.le_of_ble_eq_true rfl) (F' := 0) (sv_Fn (n := 0) o20) rfl (t_isSign (32 : Int) (sv_sts (sv_sts S [1020, 1021, 1022, 1023, 5, 1011, 3, 4, 1007, 1009, 11, 12, 13, 14, 1024, 15, 16, 1031, 1032, 17, 18, 19, 20, 21, 22, 23, 24, 25, 1042, 1043, 1044, 1045, 1100001, 1100002, 1100005, 1100003, 1100004, 1100018, 1100019, 1100016, 1100035, 1100036] g5) [1020, 1021, 1022, 1023, 5, 1011, 3, 4, 1007, 1009, 11, 12, 13, 14, 1024, 15, 16, 1031, 1032, 17, 18, 19, 20, 21, 22, 23, 24, 25, 1042, 1043, 1044, 1045, 1100001, 1100002, 1100005, 1100003, 1100004, 1100018, 1100019, 1100016, 1100035, 1100036] g11) ok15 (⟨by decide, by decide⟩ : sv_R (32 : Int)) o19) (fun v S1 hq => ?_)
      obtain ⟨rfl, hS1⟩ := hq
      obtain rfl : (sv_sts (sv_sts S [1020, 1021, 1022, 1023, 5, 1011, 3, 4, 1007, 1009, 11, 12, 13, 14, 1024, 15, 16, 1031, 1032, 17, 18, 19, 20, 21, 22, 23, 24, 25, 1042, 1043, 1044, 1045, 1100001, 1100002, 1100005, 1100003, 1100004, 1100018, 1100019, 1100016, 1100035, 1100036] g5) [1020, 1021, 1022, 1023, 5, 1011, 3, 4, 1007, 1009, 11, 12, 13, 14, 1024, 15, 16, 1031, 1032, 17, 18, 19, 20, 21, 22, 23, 24, 25, 1042, 1043, 1044, 1045, 1100001, 1100002, 1100005, 1100003, 1100004, 1100018, 1100019, 1100016, 1100035, 1100036] g11) = S1 := hS1.symm
      show sv_T sm_XS sm_cs sm_L sm_sh (30 * (20 - (S 1023 0)) + 26).toNat (q_expression p1 S) 43 19 [(0, .ref 0), (1, sv_I p1), (2, sv_I l2_12)] [sv_I (if (S 6 (g11 1020 0)) = 5 ∧ (S 7 (g11 1020 0)) = (32 : Int) then 1 else 0)] (sv_sts (sv_sts S [1020, 1021, 1022, 1023, 5, 1011, 3, 4, 1007, 1009, 11, 12, 13, 14, 1024, 15, 16, 1031, 1032, 17, 18, 19, 20, 21, 22, 23, 24, 25, 1042, 1043, 1044, 1045, 1100001, 1100002, 1100005, 1100003, 1100004, 1100018, 1100019, 1100016, 1100035, 1100036] g5) [1020, 1021, 1022, 1023, 5, 1011, 3, 4, 1007, 1009, 11, 12, 13, 14, 1024, 15, 16, 1031, 1032, 17, 18, 19, 20, 21, 22, 23, 24, 25, 1042, 1043, 1044, 1045, 1100001, 1100002, 1100005, 1100003, 1100004, 1100018, 1100019, 1100016, 1100035, 1100036] g11)
      refine sv_cond_eq hM dX12_expression_19 (sv_Rite : sv_R (if (S 6 (g11 1020 0)) = 5 ∧ (S 7 (g11 1020 0)) = (32 : Int) then 1 else 0)) (t := 48) rfl rfl (fun hc => ?_) (fun hc => ?_)
      · have h := h.1 (sv_iten hc)
        refine sv_iload_n hM dX12_expression_48 rfl rfl ?_
        exact sv_iret hM dX12_expression_49 rfl rfl ⟨l2_12, rfl, hl2_12, ok15, md16, h⟩
      · have h := h.2 (sv_itep hc)
        refine sv_aload_n hM dX12_expression_22 rfl rfl ?_
        refine sv_dupA hM dX12_expression_23 rfl ?_
        have k21 : sv_R (g11 1020 0) := sm_okI ok15 sm_r1020 0
        have h := h k21
        refine sv_getI hM dX12_expression_24 sm_fl_392 (sm_a0 _) sm_k20 rfl (x := (g11 1020 0)) rfl ?_
        refine sv_iconst (d := (1 : Int)) hM dX12_expression_27 rfl rfl ?_
        refine sv_iadd hM dX12_expression_28 rfl ?_
        obtain ⟨o22, h⟩ := h
        refine sv_putI sm_X hM dX12_expression_29 sm_fp_392 (sm_a0 _) sm_q20 (Or.inl rfl) rfl rfl rfl rfl ?_
        have ok23 : sm_ok (sv_up (sv_sts (sv_sts S [1020, 1021, 1022, 1023, 5, 1011, 3, 4, 1007, 1009, 11, 12, 13, 14, 1024, 15, 16, 1031, 1032, 17, 18, 19, 20, 21, 22, 23, 24, 25, 1042, 1043, 1044, 1045, 1100001, 1100002, 1100005, 1100003, 1100004, 1100018, 1100019, 1100016, 1100035, 1100036] g5) [1020, 1021, 1022, 1023, 5, 1011, 3, 4, 1007, 1009, 11, 12, 13, 14, 1024, 15, 16, 1031, 1032, 17, 18, 19, 20, 21, 22, 23, 24, 25, 1042, 1043, 1044, 1045, 1100001, 1100002, 1100005, 1100003, 1100004, 1100018, 1100019, 1100016, 1100035, 1100036] g11) 1020 0 ((g11 1020 0) + (1 : Int))) := sm_upI ok15 sm_r1020 o22
        have md24 : sv_mod [1020, 1021, 1022, 1023, 5, 1011, 3, 4, 1007, 1009, 11, 12, 13, 14, 1024, 15, 16, 1031, 1032, 17, 18, 19, 20, 21, 22, 23, 24, 25, 1042, 1043, 1044, 1045, 1100001, 1100002, 1100005, 1100003, 1100004, 1100018, 1100019, 1100016, 1100035, 1100036] S (sv_up (sv_sts (sv_sts S [1020, 1021, 1022, 1023, 5, 1011, 3, 4, 1007, 1009, 11, 12, 13, 14, 1024, 15, 16, 1031, 1032, 17, 18, 19, 20, 21, 22, 23, 24, 25, 1042, 1043, 1044, 1045, 1100001, 1100002, 1100005, 1100003, 1100004, 1100018, 1100019, 1100016, 1100035, 1100036] g5) [1020, 1021, 1022, 1023, 5, 1011, 3, 4, 1007, 1009, 11, 12, 13, 14, 1024, 15, 16, 1031, 1032, 17, 18, 19, 20, 21, 22, 23, 24, 25, 1042, 1043, 1044, 1045, 1100001, 1100002, 1100005, 1100003, 1100004, 1100018, 1100019, 1100016, 1100035, 1100036] g11) 1020 0 ((g11 1020 0) + (1 : Int))) := sv_mod.up md16 (by decide)
        have md25 : sv_mod [1020, 1021, 1022, 1023, 5, 1011, 3, 4, 1007, 1009, 11, 12, 13, 14, 1024, 15, 16, 1031, 1032, 17, 18, 19, 20, 21, 22, 23, 24, 25, 1042, 1043, 1044, 1045, 1100001, 1100002, 1100005, 1100003, 1100004, 1100018, 1100019, 1100016, 1100035, 1100036] (sv_sts S [1020, 1021, 1022, 1023, 5, 1011, 3, 4, 1007, 1009, 11, 12, 13, 14, 1024, 15, 16, 1031, 1032, 17, 18, 19, 20, 21, 22, 23, 24, 25, 1042, 1043, 1044, 1045, 1100001, 1100002, 1100005, 1100003, 1100004, 1100018, 1100019, 1100016, 1100035, 1100036] g5) (sv_up (sv_sts (sv_sts S [1020, 1021, 1022, 1023, 5, 1011, 3, 4, 1007, 1009, 11, 12, 13, 14, 1024, 15, 16, 1031, 1032, 17, 18, 19, 20, 21, 22, 23, 24, 25, 1042, 1043, 1044, 1045, 1100001, 1100002, 1100005, 1100003, 1100004, 1100018, 1100019, 1100016, 1100035, 1100036] g5) [1020, 1021, 1022, 1023, 5, 1011, 3, 4, 1007, 1009, 11, 12, 13, 14, 1024, 15, 16, 1031, 1032, 17, 18, 19, 20, 21, 22, 23, 24, 25, 1042, 1043, 1044, 1045, 1100001, 1100002, 1100005, 1100003, 1100004, 1100018, 1100019, 1100016, 1100035, 1100036] g11) 1020 0 ((g11 1020 0) + (1 : Int))) := sv_mod.up md17 (by decide)
        refine sv_aload_n hM dX12_expression_32 rfl rfl ?_
        refine sv_iconst (d := (3 : Int)) hM dX12_expression_33 rfl rfl ?_
        refine sv_iload_n hM dX12_expression_34 rfl rfl ?_
        refine sv_aload_n hM dX12_expression_35 rfl rfl ?_
        refine sv_iload_n hM dX12_expression_36 rfl rfl ?_
        obtain ⟨o26, h⟩ := h
        obtain ⟨o27, h⟩ := h
        obtain ⟨o28, h⟩ := h
        refine sv_callV hM dX12_expression_37 sm_iv_442 (by decide) (sm_a0 _) rfl rfl (Nat.le_of_ble_eq_true rfl) sm_h47 (Nat.le_of_ble_eq_true rfl) (Nat.le_of_ble_eq_true rfl) (F' := (((if 0 < (g11 1021 0) then 12 else 30 * (20 - (g11 1023 0)) + 25))).toNat) (sv_Fe o28) rfl ((IH ((if 0 < (g11 1021 0) then 12 else 30 * (20 - (g11 1023 0)) + 25)) o27.1 o27.2).2.2.1 p1 (sv_up (sv_sts (sv_sts S [1020, 1021, 1022, 1023, 5, 1011, 3, 4, 1007, 1009, 11, 12, 13, 14, 1024, 15, 16, 1031, 1032, 17, 18, 19, 20, 21, 22, 23, 24, 25, 1042, 1043, 1044, 1045, 1100001, 1100002, 1100005, 1100003, 1100004, 1100018, 1100019, 1100016, 1100035, 1100036] g5) [1020, 1021, 1022, 1023, 5, 1011, 3, 4, 1007, 1009, 11, 12, 13, 14, 1024, 15, 16, 1031, 1032, 17, 18, 19, 20, 21, 22, 23, 24, 25, 1042, 1043, 1044, 1045, 1100001, 1100002, 1100005, 1100003, 1100004, 1100018, 1100019, 1100016, 1100035, 1100036] g11) 1020 0 ((g11 1020 0) + (1 : Int))) ok23 o1 o26 rfl) (fun v S1 hq => ?_)
        obtain ⟨r33, rfl, hr33, ok30, md31, hpo32⟩ := hq
        obtain ⟨g29, rfl⟩ : ∃ g, S1 = sv_sts (sv_up (sv_sts (sv_sts S [1020, 1021, 1022, 1023, 5, 1011, 3, 4, 1007, 1009, 11, 12, 13, 14, 1024, 15, 16, 1031, 1032, 17, 18, 19, 20, 21, 22, 23, 24, 25, 1042, 1043, 1044, 1045, 1100001, 1100002, 1100005, 1100003, 1100004, 1100018, 1100019, 1100016, 1100035, 1100036] g5) [1020, 1021, 1022, 1023, 5, 1011, 3, 4, 1007, 1009, 11, 12, 13, 14, 1024, 15, 16, 1031, 1032, 17, 18, 19, 20, 21, 22, 23, 24, 25, 1042, 1043, 1044, 1045, 1100001, 1100002, 1100005, 1100003, 1100004, 1100018, 1100019, 1100016, 1100035, 1100036] g11) 1020 0 ((g11 1020 0) + (1 : Int))) [1020, 1021, 1022, 1023, 5, 1011, 3, 4, 1007, 1009, 11, 12, 13, 14, 1024, 15, 16, 1031, 1032, 17, 18, 19, 20, 21, 22, 23, 24, 25, 1042, 1043, 1044, 1045, 1100001, 1100002, 1100005, 1100003, 1100004, 1100018, 1100019, 1100016, 1100035, 1100036] g := ⟨_, md31.eq⟩
        show sv_T sm_XS sm_cs sm_L sm_sh (30 * (20 - (S 1023 0)) + 26).toNat (q_expression p1 S) 43 40 [(0, .ref 0), (1, sv_I p1), (2, sv_I l2_12)] [sv_I r33, sv_I l2_12, sv_I (3 : Int), .ref 0] (sv_sts (sv_up (sv_sts (sv_sts S [1020, 1021, 1022, 1023, 5, 1011, 3, 4, 1007, 1009, 11, 12, 13, 14, 1024, 15, 16, 1031, 1032, 17, 18, 19, 20, 21, 22, 23, 24, 25, 1042, 1043, 1044, 1045, 1100001, 1100002, 1100005, 1100003, 1100004, 1100018, 1100019, 1100016, 1100035, 1100036] g5) [1020, 1021, 1022, 1023, 5, 1011, 3, 4, 1007, 1009, 11, 12, 13, 14, 1024, 15, 16, 1031, 1032, 17, 18, 19, 20, 21, 22, 23, 24, 25, 1042, 1043, 1044, 1045, 1100001, 1100002, 1100005, 1100003, 1100004, 1100018, 1100019, 1100016, 1100035, 1100036] g11) 1020 0 ((g11 1020 0) + (1 : Int))) [1020, 1021, 1022, 1023, 5, 1011, 3, 4, 1007, 1009, 11, 12, 13, 14, 1024, 15, 16, 1031, 1032, 17, 18, 19, 20, 21, 22, 23, 24, 25, 1042, 1043, 1044, 1045, 1100001, 1100002, 1100005, 1100003, 1100004, 1100018, 1100019, 1100016, 1100035, 1100036] g29)
        have md34 : sv_mod [1020, 1021, 1022, 1023, 5, 1011, 3, 4, 1007, 1009, 11, 12, 13, 14, 1024, 15, 16, 1031, 1032, 17, 18, 19, 20, 21, 22, 23, 24, 25, 1042, 1043, 1044, 1045, 1100001, 1100002, 1100005, 1100003, 1100004, 1100018, 1100019, 1100016, 1100035, 1100036] S (sv_sts (sv_up (sv_sts (sv_sts S [1020, 1021, 1022, 1023, 5, 1011, 3, 4, 1007, 1009, 11, 12, 13, 14, 1024, 15, 16, 1031, 1032, 17, 18, 19, 20, 21, 22, 23, 24, 25, 1042, 1043, 1044, 1045, 1100001, 1100002, 1100005, 1100003, 1100004, 1100018, 1100019, 1100016, 1100035, 1100036] g5) [1020, 1021, 1022, 1023, 5, 1011, 3, 4, 1007, 1009, 11, 12, 13, 14, 1024, 15, 16, 1031, 1032, 17, 18, 19, 20, 21, 22, 23, 24, 25, 1042, 1043, 1044, 1045, 1100001, 1100002, 1100005, 1100003, 1100004, 1100018, 1100019, 1100016, 1100035, 1100036] g11) 1020 0 ((g11 1020 0) + (1 : Int))) [1020, 1021, 1022, 1023, 5, 1011, 3, 4, 1007, 1009, 11, 12, 13, 14, 1024, 15, 16, 1031, 1032, 17, 18, 19, 20, 21, 22, 23, 24, 25, 1042, 1043, 1044, 1045, 1100001, 1100002, 1100005, 1100003, 1100004, 1100018, 1100019, 1100016, 1100035, 1100036] g29) := sv_mod.sts md24 (by decide)
        have md35 : sv_mod [1020, 1021, 1022, 1023, 5, 1011, 3, 4, 1007, 1009, 11, 12, 13, 14, 1024, 15, 16, 1031, 1032, 17, 18, 19, 20, 21, 22, 23, 24, 25, 1042, 1043, 1044, 1045, 1100001, 1100002, 1100005, 1100003, 1100004, 1100018, 1100019, 1100016, 1100035, 1100036] (sv_sts S [1020, 1021, 1022, 1023, 5, 1011, 3, 4, 1007, 1009, 11, 12, 13, 14, 1024, 15, 16, 1031, 1032, 17, 18, 19, 20, 21, 22, 23, 24, 25, 1042, 1043, 1044, 1045, 1100001, 1100002, 1100005, 1100003, 1100004, 1100018, 1100019, 1100016, 1100035, 1100036] g5) (sv_sts (sv_up (sv_sts (sv_sts S [1020, 1021, 1022, 1023, 5, 1011, 3, 4, 1007, 1009, 11, 12, 13, 14, 1024, 15, 16, 1031, 1032, 17, 18, 19, 20, 21, 22, 23, 24, 25, 1042, 1043, 1044, 1045, 1100001, 1100002, 1100005, 1100003, 1100004, 1100018, 1100019, 1100016, 1100035, 1100036] g5) [1020, 1021, 1022, 1023, 5, 1011, 3, 4, 1007, 1009, 11, 12, 13, 14, 1024, 15, 16, 1031, 1032, 17, 18, 19, 20, 21, 22, 23, 24, 25, 1042, 1043, 1044, 1045, 1100001, 1100002, 1100005, 1100003, 1100004, 1100018, 1100019, 1100016, 1100035, 1100036] g11) 1020 0 ((g11 1020 0) + (1 : Int))) [1020, 1021, 1022, 1023, 5, 1011, 3, 4, 1007, 1009, 11, 12, 13, 14, 1024, 15, 16, 1031, 1032, 17, 18, 19, 20, 21, 22, 23, 24, 25, 1042, 1043, 1044, 1045, 1100001, 1100002, 1100005, 1100003, 1100004, 1100018, 1100019, 1100016, 1100035, 1100036] g29) := sv_mod.sts md25 (by decide)
        have h := h r33 hr33 g29 hpo32
        refine sv_iconst (d := (0 : Int)) hM dX12_expression_40 rfl rfl ?_
        obtain ⟨o36, h⟩ := h
        refine sv_callV hM dX12_expression_41 sm_iv_446 (by decide) (sm_a0 _) rfl rfl (Nat.le_of_ble_eq_true rfl) sm_h33 (Nat.le_of_ble_eq_true rfl) (Nat.le_of_ble_eq_true rfl) (F' := 0) (sv_Fn (n := 0) o20) rfl (t_nodeR (3 : Int) l2_12 r33 (0 : Int) (sv_sts (sv_up (sv_sts (sv_sts S [1020, 1021, 1022, 1023, 5, 1011, 3, 4, 1007, 1009, 11, 12, 13, 14, 1024, 15, 16, 1031, 1032, 17, 18, 19, 20, 21, 22, 23, 24, 25, 1042, 1043, 1044, 1045, 1100001, 1100002, 1100005, 1100003, 1100004, 1100018, 1100019, 1100016, 1100035, 1100036] g5) [1020, 1021, 1022, 1023, 5, 1011, 3, 4, 1007, 1009, 11, 12, 13, 14, 1024, 15, 16, 1031, 1032, 17, 18, 19, 20, 21, 22, 23, 24, 25, 1042, 1043, 1044, 1045, 1100001, 1100002, 1100005, 1100003, 1100004, 1100018, 1100019, 1100016, 1100035, 1100036] g11) 1020 0 ((g11 1020 0) + (1 : Int))) [1020, 1021, 1022, 1023, 5, 1011, 3, 4, 1007, 1009, 11, 12, 13, 14, 1024, 15, 16, 1031, 1032, 17, 18, 19, 20, 21, 22, 23, 24, 25, 1042, 1043, 1044, 1045, 1100001, 1100002, 1100005, 1100003, 1100004, 1100018, 1100019, 1100016, 1100035, 1100036] g29) ok30 (⟨by decide, by decide⟩ : sv_R (3 : Int)) hl2_12 hr33 (⟨by decide, by decide⟩ : sv_R (0 : Int)) o36) (fun v S1 hq => ?_)
        obtain ⟨r41, rfl, hr41, ok38, md39, hpo40⟩ := hq
        obtain ⟨g37, rfl⟩ : ∃ g, S1 = sv_sts (sv_sts (sv_up (sv_sts (sv_sts S [1020, 1021, 1022, 1023, 5, 1011, 3, 4, 1007, 1009, 11, 12, 13, 14, 1024, 15, 16, 1031, 1032, 17, 18, 19, 20, 21, 22, 23, 24, 25, 1042, 1043, 1044, 1045, 1100001, 1100002, 1100005, 1100003, 1100004, 1100018, 1100019, 1100016, 1100035, 1100036] g5) [1020, 1021, 1022, 1023, 5, 1011, 3, 4, 1007, 1009, 11, 12, 13, 14, 1024, 15, 16, 1031, 1032, 17, 18, 19, 20, 21, 22, 23, 24, 25, 1042, 1043, 1044, 1045, 1100001, 1100002, 1100005, 1100003, 1100004, 1100018, 1100019, 1100016, 1100035, 1100036] g11) 1020 0 ((g11 1020 0) + (1 : Int))) [1020, 1021, 1022, 1023, 5, 1011, 3, 4, 1007, 1009, 11, 12, 13, 14, 1024, 15, 16, 1031, 1032, 17, 18, 19, 20, 21, 22, 23, 24, 25, 1042, 1043, 1044, 1045, 1100001, 1100002, 1100005, 1100003, 1100004, 1100018, 1100019, 1100016, 1100035, 1100036] g29) [1024, 11, 12, 13, 14, 1100019, 1100035] g := ⟨_, md39.eq⟩
        show sv_T sm_XS sm_cs sm_L sm_sh (30 * (20 - (S 1023 0)) + 26).toNat (q_expression p1 S) 43 44 [(0, .ref 0), (1, sv_I p1), (2, sv_I l2_12)] [sv_I r41] (sv_sts (sv_sts (sv_up (sv_sts (sv_sts S [1020, 1021, 1022, 1023, 5, 1011, 3, 4, 1007, 1009, 11, 12, 13, 14, 1024, 15, 16, 1031, 1032, 17, 18, 19, 20, 21, 22, 23, 24, 25, 1042, 1043, 1044, 1045, 1100001, 1100002, 1100005, 1100003, 1100004, 1100018, 1100019, 1100016, 1100035, 1100036] g5) [1020, 1021, 1022, 1023, 5, 1011, 3, 4, 1007, 1009, 11, 12, 13, 14, 1024, 15, 16, 1031, 1032, 17, 18, 19, 20, 21, 22, 23, 24, 25, 1042, 1043, 1044, 1045, 1100001, 1100002, 1100005, 1100003, 1100004, 1100018, 1100019, 1100016, 1100035, 1100036] g11) 1020 0 ((g11 1020 0) + (1 : Int))) [1020, 1021, 1022, 1023, 5, 1011, 3, 4, 1007, 1009, 11, 12, 13, 14, 1024, 15, 16, 1031, 1032, 17, 18, 19, 20, 21, 22, 23, 24, 25, 1042, 1043, 1044, 1045, 1100001, 1100002, 1100005, 1100003, 1100004, 1100018, 1100019, 1100016, 1100035, 1100036] g29) [1024, 11, 12, 13, 14, 1100019, 1100035] g37)
        have md42 : sv_mod [1020, 1021, 1022, 1023, 5, 1011, 3, 4, 1007, 1009, 11, 12, 13, 14, 1024, 15, 16, 1031, 1032, 17, 18, 19, 20, 21, 22, 23, 24, 25, 1042, 1043, 1044, 1045, 1100001, 1100002, 1100005, 1100003, 1100004, 1100018, 1100019, 1100016, 1100035, 1100036] S (sv_sts (sv_sts (sv_up (sv_sts (sv_sts S [1020, 1021, 1022, 1023, 5, 1011, 3, 4, 1007, 1009, 11, 12, 13, 14, 1024, 15, 16, 1031, 1032, 17, 18, 19, 20, 21, 22, 23, 24, 25, 1042, 1043, 1044, 1045, 1100001, 1100002, 1100005, 1100003, 1100004, 1100018, 1100019, 1100016, 1100035, 1100036] g5) [1020, 1021, 1022, 1023, 5, 1011, 3, 4, 1007, 1009, 11, 12, 13, 14, 1024, 15, 16, 1031, 1032, 17, 18, 19, 20, 21, 22, 23, 24, 25, 1042, 1043, 1044, 1045, 1100001, 1100002, 1100005, 1100003, 1100004, 1100018, 1100019, 1100016, 1100035, 1100036] g11) 1020 0 ((g11 1020 0) + (1 : Int))) [1020, 1021, 1022, 1023, 5, 1011, 3, 4, 1007, 1009, 11, 12, 13, 14, 1024, 15, 16, 1031, 1032, 17, 18, 19, 20, 21, 22, 23, 24, 25, 1042, 1043, 1044, 1045, 1100001, 1100002, 1100005, 1100003, 1100004, 1100018, 1100019, 1100016, 1100035, 1100036] g29) [1024, 11, 12, 13, 14, 1100019, 1100035] g37) := sv_mod.sts md34 (by decide)
        have md43 : sv_mod [1020, 1021, 1022, 1023, 5, 1011, 3, 4, 1007, 1009, 11, 12, 13, 14, 1024, 15, 16, 1031, 1032, 17, 18, 19, 20, 21, 22, 23, 24, 25, 1042, 1043, 1044, 1045, 1100001, 1100002, 1100005, 1100003, 1100004, 1100018, 1100019, 1100016, 1100035, 1100036] (sv_sts S [1020, 1021, 1022, 1023, 5, 1011, 3, 4, 1007, 1009, 11, 12, 13, 14, 1024, 15, 16, 1031, 1032, 17, 18, 19, 20, 21, 22, 23, 24, 25, 1042, 1043, 1044, 1045, 1100001, 1100002, 1100005, 1100003, 1100004, 1100018, 1100019, 1100016, 1100035, 1100036] g5) (sv_sts (sv_sts (sv_up (sv_sts (sv_sts S [1020, 1021, 1022, 1023, 5, 1011, 3, 4, 1007, 1009, 11, 12, 13, 14, 1024, 15, 16, 1031, 1032, 17, 18, 19, 20, 21, 22, 23, 24, 25, 1042, 1043, 1044, 1045, 1100001, 1100002, 1100005, 1100003, 1100004, 1100018, 1100019, 1100016, 1100035, 1100036] g5) [1020, 1021, 1022, 1023, 5, 1011, 3, 4, 1007, 1009, 11, 12, 13, 14, 1024, 15, 16, 1031, 1032, 17, 18, 19, 20, 21, 22, 23, 24, 25, 1042, 1043, 1044, 1045, 1100001, 1100002, 1100005, 1100003, 1100004, 1100018, 1100019, 1100016, 1100035, 1100036] g11) 1020 0 ((g11 1020 0) + (1 : Int))) [1020, 1021, 1022, 1023, 5, 1011, 3, 4, 1007, 1009, 11, 12, 13, 14, 1024, 15, 16, 1031, 1032, 17, 18, 19, 20, 21, 22, 23, 24, 25, 1042, 1043, 1044, 1045, 1100001, 1100002, 1100005, 1100003, 1100004, 1100018, 1100019, 1100016, 1100035, 1100036] g29) [1024, 11, 12, 13, 14, 1100019, 1100035] g37) := sv_mod.sts md35 (by decide)
        have h := h r41 hr41 g37 hpo40
        refine sv_ghost sm_X 1100001 r41 (1 : Int) (by decide) ?_
        have ok44 : sm_ok (sv_up (sv_sts (sv_sts (sv_up (sv_sts (sv_sts S [1020, 1021, 1022, 1023, 5, 1011, 3, 4, 1007, 1009, 11, 12, 13, 14, 1024, 15, 16, 1031, 1032, 17, 18, 19, 20, 21, 22, 23, 24, 25, 1042, 1043, 1044, 1045, 1100001, 1100002, 1100005, 1100003, 1100004, 1100018, 1100019, 1100016, 1100035, 1100036] g5) [1020, 1021, 1022, 1023, 5, 1011, 3, 4, 1007, 1009, 11, 12, 13, 14, 1024, 15, 16, 1031, 1032, 17, 18, 19, 20, 21, 22, 23, 24, 25, 1042, 1043, 1044, 1045, 1100001, 1100002, 1100005, 1100003, 1100004, 1100018, 1100019, 1100016, 1100035, 1100036] g11) 1020 0 ((g11 1020 0) + (1 : Int))) [1020, 1021, 1022, 1023, 5, 1011, 3, 4, 1007, 1009, 11, 12, 13, 14, 1024, 15, 16, 1031, 1032, 17, 18, 19, 20, 21, 22, 23, 24, 25, 1042, 1043, 1044, 1045, 1100001, 1100002, 1100005, 1100003, 1100004, 1100018, 1100019, 1100016, 1100035, 1100036] g29) [1024, 11, 12, 13, 14, 1100019, 1100035] g37) 1100001 r41 (1 : Int)) := sm_upI ok38 sm_r1100001 (⟨by decide, by decide⟩ : sv_R (1 : Int))
        have md45 : sv_mod [1020, 1021, 1022, 1023, 5, 1011, 3, 4, 1007, 1009, 11, 12, 13, 14, 1024, 15, 16, 1031, 1032, 17, 18, 19, 20, 21, 22, 23, 24, 25, 1042, 1043, 1044, 1045, 1100001, 1100002, 1100005, 1100003, 1100004, 1100018, 1100019, 1100016, 1100035, 1100036] S (sv_up (sv_sts (sv_sts (sv_up (sv_sts (sv_sts S [1020, 1021, 1022, 1023, 5, 1011, 3, 4, 1007, 1009, 11, 12, 13, 14, 1024, 15, 16, 1031, 1032, 17, 18, 19, 20, 21, 22, 23, 24, 25, 1042, 1043, 1044, 1045, 1100001, 1100002, 1100005, 1100003, 1100004, 1100018, 1100019, 1100016, 1100035, 1100036] g5) [1020, 1021, 1022, 1023, 5, 1011, 3, 4, 1007, 1009, 11, 12, 13, 14, 1024, 15, 16, 1031, 1032, 17, 18, 19, 20, 21, 22, 23, 24, 25, 1042, 1043, 1044, 1045, 1100001, 1100002, 1100005, 1100003, 1100004, 1100018, 1100019, 1100016, 1100035, 1100036] g11) 1020 0 ((g11 1020 0) + (1 : Int))) [1020, 1021, 1022, 1023, 5, 1011, 3, 4, 1007, 1009, 11, 12, 13, 14, 1024, 15, 16, 1031, 1032, 17, 18, 19, 20, 21, 22, 23, 24, 25, 1042, 1043, 1044, 1045, 1100001, 1100002, 1100005, 1100003, 1100004, 1100018, 1100019, 1100016, 1100035, 1100036] g29) [1024, 11, 12, 13, 14, 1100019, 1100035] g37) 1100001 r41 (1 : Int)) := sv_mod.up md42 (by decide)
        have md46 : sv_mod [1020, 1021, 1022, 1023, 5, 1011, 3, 4, 1007, 1009, 11, 12, 13, 14, 1024, 15, 16, 1031, 1032, 17, 18, 19, 20, 21, 22, 23, 24, 25, 1042, 1043, 1044, 1045, 1100001, 1100002, 1100005, 1100003, 1100004, 1100018, 1100019, 1100016, 1100035, 1100036] (sv_sts S [1020, 1021, 1022, 1023, 5, 1011, 3, 4, 1007, 1009, 11, 12, 13, 14, 1024, 15, 16, 1031, 1032, 17, 18, 19, 20, 21, 22, 23, 24, 25, 1042, 1043, 1044, 1045, 1100001, 1100002, 1100005, 1100003, 1100004, 1100018, 1100019, 1100016, 1100035, 1100036] g5) (sv_up (sv_sts (sv_sts (sv_up (sv_sts (sv_sts S [1020, 1021, 1022, 1023, 5, 1011, 3, 4, 1007, 1009, 11, 12, 13, 14, 1024, 15, 16, 1031, 1032, 17, 18, 19, 20, 21, 22, 23, 24, 25, 1042, 1043, 1044, 1045, 1100001, 1100002, 1100005, 1100003, 1100004, 1100018, 1100019, 1100016, 1100035, 1100036] g5) [1020, 1021, 1022, 1023, 5, 1011, 3, 4, 1007, 1009, 11, 12, 13, 14, 1024, 15, 16, 1031, 1032, 17, 18, 19, 20, 21, 22, 23, 24, 25, 1042, 1043, 1044, 1045, 1100001, 1100002, 1100005, 1100003, 1100004, 1100018, 1100019, 1100016, 1100035, 1100036] g11) 1020 0 ((g11 1020 0) + (1 : Int))) [1020, 1021, 1022, 1023, 5, 1011, 3, 4, 1007, 1009, 11, 12, 13, 14, 1024, 15, 16, 1031, 1032, 17, 18, 19, 20, 21, 22, 23, 24, 25, 1042, 1043, 1044, 1045, 1100001, 1100002, 1100005, 1100003, 1100004, 1100018, 1100019, 1100016, 1100035, 1100036] g29) [1024, 11, 12, 13, 14, 1100019, 1100035] g37) 1100001 r41 (1 : Int)) := sv_mod.up md43 (by decide)
        obtain ⟨o47, h⟩ := h
        refine sv_ghost sm_X 1100002 r41 ((17 * (20 - (S 1023 0)) + 17)) (by decide) ?_
        have ok48 : sm_ok (sv_up (sv_up (sv_sts (sv_sts (sv_up (sv_sts (sv_sts S [1020, 1021, 1022, 1023, 5, 1011, 3, 4, 1007, 1009, 11, 12, 13, 14, 1024, 15, 16, 1031, 1032, 17, 18, 19, 20, 21, 22, 23, 24, 25, 1042, 1043, 1044, 1045, 1100001, 1100002, 1100005, 1100003, 1100004, 1100018, 1100019, 1100016, 1100035, 1100036] g5) [1020, 1021, 1022, 1023, 5, 1011, 3, 4, 1007, 1009, 11, 12, 13, 14, 1024, 15, 16, 1031, 1032, 17, 18, 19, 20, 21, 22, 23, 24, 25, 1042, 1043, 1044, 1045, 1100001, 1100002, 1100005, 1100003, 1100004, 1100018, 1100019, 1100016, 1100035, 1100036] g11) 1020 0 ((g11 1020 0) + (1 : Int))) [1020, 1021, 1022, 1023, 5, 1011, 3, 4, 1007, 1009, 11, 12, 13, 14, 1024, 15, 16, 1031, 1032, 17, 18, 19, 20, 21, 22, 23, 24, 25, 1042, 1043, 1044, 1045, 1100001, 1100002, 1100005, 1100003, 1100004, 1100018, 1100019, 1100016, 1100035, 1100036] g29) [1024, 11, 12, 13, 14, 1100019, 1100035] g37) 1100001 r41 (1 : Int)) 1100002 r41 ((17 * (20 - (S 1023 0)) + 17))) := sm_upI ok44 sm_r1100002 o47
        have md49 : sv_mod [1020, 1021, 1022, 1023, 5, 1011, 3, 4, 1007, 1009, 11, 12, 13, 14, 1024, 15, 16, 1031, 1032, 17, 18, 19, 20, 21, 22, 23, 24, 25, 1042, 1043, 1044, 1045, 1100001, 1100002, 1100005, 1100003, 1100004, 1100018, 1100019, 1100016, 1100035, 1100036] S (sv_up (sv_up (sv_sts (sv_sts (sv_up (sv_sts (sv_sts S [1020, 1021, 1022, 1023, 5, 1011, 3, 4, 1007, 1009, 11, 12, 13, 14, 1024, 15, 16, 1031, 1032, 17, 18, 19, 20, 21, 22, 23, 24, 25, 1042, 1043, 1044, 1045, 1100001, 1100002, 1100005, 1100003, 1100004, 1100018, 1100019, 1100016, 1100035, 1100036] g5) [1020, 1021, 1022, 1023, 5, 1011, 3, 4, 1007, 1009, 11, 12, 13, 14, 1024, 15, 16, 1031, 1032, 17, 18, 19, 20, 21, 22, 23, 24, 25, 1042, 1043, 1044, 1045, 1100001, 1100002, 1100005, 1100003, 1100004, 1100018, 1100019, 1100016, 1100035, 1100036] g11) 1020 0 ((g11 1020 0) + (1 : Int))) [1020, 1021, 1022, 1023, 5, 1011, 3, 4, 1007, 1009, 11, 12, 13, 14, 1024, 15, 16, 1031, 1032, 17, 18, 19, 20, 21, 22, 23, 24, 25, 1042, 1043, 1044, 1045, 1100001, 1100002, 1100005, 1100003, 1100004, 1100018, 1100019, 1100016, 1100035, 1100036] g29) [1024, 11, 12, 13, 14, 1100019, 1100035] g37) 1100001 r41 (1 : Int)) 1100002 r41 ((17 * (20 - (S 1023 0)) + 17))) := sv_mod.up md45 (by decide)
        have md50 : sv_mod [1020, 1021, 1022, 1023, 5, 1011, 3, 4, 1007, 1009, 11, 12, 13, 14, 1024, 15, 16, 1031, 1032, 17, 18, 19, 20, 21, 22, 23, 24, 25, 1042, 1043, 1044, 1045, 1100001, 1100002, 1100005, 1100003, 1100004, 1100018, 1100019, 1100016, 1100035, 1100036] (sv_sts S [1020, 1021, 1022, 1023, 5, 1011, 3, 4, 1007, 1009, 11, 12, 13, 14, 1024, 15, 16, 1031, 1032, 17, 18, 19, 20, 21, 22, 23, 24, 25, 1042, 1043, 1044, 1045, 1100001, 1100002, 1100005, 1100003, 1100004, 1100018, 1100019, 1100016, 1100035, 1100036] g5) (sv_up (sv_up (sv_sts (sv_sts (sv_up (sv_sts (sv_sts S [1020, 1021, 1022, 1023, 5, 1011, 3, 4, 1007, 1009, 11, 12, 13, 14, 1024, 15, 16, 1031, 1032, 17, 18, 19, 20, 21, 22, 23, 24, 25, 1042, 1043, 1044, 1045, 1100001, 1100002, 1100005, 1100003, 1100004, 1100018, 1100019, 1100016, 1100035, 1100036] g5) [1020, 1021, 1022, 1023, 5, 1011, 3, 4, 1007, 1009, 11, 12, 13, 14, 1024, 15, 16, 1031, 1032, 17, 18, 19, 20, 21, 22, 23, 24, 25, 1042, 1043, 1044, 1045, 1100001, 1100002, 1100005, 1100003, 1100004, 1100018, 1100019, 1100016, 1100035, 1100036] g11) 1020 0 ((g11 1020 0) + (1 : Int))) [1020, 1021, 1022, 1023, 5, 1011, 3, 4, 1007, 1009, 11, 12, 13, 14, 1024, 15, 16, 1031, 1032, 17, 18, 19, 20, 21, 22, 23, 24, 25, 1042, 1043, 1044, 1045, 1100001, 1100002, 1100005, 1100003, 1100004, 1100018, 1100019, 1100016, 1100035, 1100036] g29) [1024, 11, 12, 13, 14, 1100019, 1100035] g37) 1100001 r41 (1 : Int)) 1100002 r41 ((17 * (20 - (S 1023 0)) + 17))) := sv_mod.up md46 (by decide)
        obtain ⟨o51, h⟩ := h
        refine sv_ghost sm_X 1100005 r41 ((20 - (S 1023 0))) (by decide) ?_
        have ok52 : sm_ok (sv_up (sv_up (sv_up (sv_sts (sv_sts (sv_up (sv_sts (sv_sts S [1020, 1021, 1022, 1023, 5, 1011, 3, 4, 1007, 1009, 11, 12, 13, 14, 1024, 15, 16, 1031, 1032, 17, 18, 19, 20, 21, 22, 23, 24, 25, 1042, 1043, 1044, 1045, 1100001, 1100002, 1100005, 1100003, 1100004, 1100018, 1100019, 1100016, 1100035, 1100036] g5) [1020, 1021, 1022, 1023, 5, 1011, 3, 4, 1007, 1009, 11, 12, 13, 14, 1024, 15, 16, 1031, 1032, 17, 18, 19, 20, 21, 22, 23, 24, 25, 1042, 1043, 1044, 1045, 1100001, 1100002, 1100005, 1100003, 1100004, 1100018, 1100019, 1100016, 1100035, 1100036] g11) 1020 0 ((g11 1020 0) + (1 : Int))) [1020, 1021, 1022, 1023, 5, 1011, 3, 4, 1007, 1009, 11, 12, 13, 14, 1024, 15, 16, 1031, 1032, 17, 18, 19, 20, 21, 22, 23, 24, 25, 1042, 1043, 1044, 1045, 1100001, 1100002, 1100005, 1100003, 1100004, 1100018, 1100019, 1100016, 1100035, 1100036] g29) [1024, 11, 12, 13, 14, 1100019, 1100035] g37) 1100001 r41 (1 : Int)) 1100002 r41 ((17 * (20 - (S 1023 0)) + 17))) 1100005 r41 ((20 - (S 1023 0)))) := sm_upI ok48 sm_r1100005 o51
        have md53 : sv_mod [1020, 1021, 1022, 1023, 5, 1011, 3, 4, 1007, 1009, 11, 12, 13, 14, 1024, 15, 16, 1031, 1032, 17, 18, 19, 20, 21, 22, 23, 24, 25, 1042, 1043, 1044, 1045, 1100001, 1100002, 1100005, 1100003, 1100004, 1100018, 1100019, 1100016, 1100035, 1100036] S (sv_up (sv_up (sv_up (sv_sts (sv_sts (sv_up (sv_sts (sv_sts S [1020, 1021, 1022, 1023, 5, 1011, 3, 4, 1007, 1009, 11, 12, 13, 14, 1024, 15, 16, 1031, 1032, 17, 18, 19, 20, 21, 22, 23, 24, 25, 1042, 1043, 1044, 1045, 1100001, 1100002, 1100005, 1100003, 1100004, 1100018, 1100019, 1100016, 1100035, 1100036] g5) [1020, 1021, 1022, 1023, 5, 1011, 3, 4, 1007, 1009, 11, 12, 13, 14, 1024, 15, 16, 1031, 1032, 17, 18, 19, 20, 21, 22, 23, 24, 25, 1042, 1043, 1044, 1045, 1100001, 1100002, 1100005, 1100003, 1100004, 1100018, 1100019, 1100016, 1100035, 1100036] g11) 1020 0 ((g11 1020 0) + (1 : Int))) [1020, 1021, 1022, 1023, 5, 1011, 3, 4, 1007, 1009, 11, 12, 13, 14, 1024, 15, 16, 1031, 1032, 17, 18, 19, 20, 21, 22, 23, 24, 25, 1042, 1043, 1044, 1045, 1100001, 1100002, 1100005, 1100003, 1100004, 1100018, 1100019, 1100016, 1100035, 1100036] g29) [1024, 11, 12, 13, 14, 1100019, 1100035] g37) 1100001 r41 (1 : Int)) 1100002 r41 ((17 * (20 - (S 1023 0)) + 17))) 1100005 r41 ((20 - (S 1023 0)))) := sv_mod.up md49 (by decide)
        have md54 : sv_mod [1020, 1021, 1022, 1023, 5, 1011, 3, 4, 1007, 1009, 11, 12, 13, 14, 1024, 15, 16, 1031, 1032, 17, 18, 19, 20, 21, 22, 23, 24, 25, 1042, 1043, 1044, 1045, 1100001, 1100002, 1100005, 1100003, 1100004, 1100018, 1100019, 1100016, 1100035, 1100036] (sv_sts S [1020, 1021, 1022, 1023, 5, 1011, 3, 4, 1007, 1009, 11, 12, 13, 14, 1024, 15, 16, 1031, 1032, 17, 18, 19, 20, 21, 22, 23, 24, 25, 1042, 1043, 1044, 1045, 1100001, 1100002, 1100005, 1100003, 1100004, 1100018, 1100019, 1100016, 1100035, 1100036] g5) (sv_up (sv_up (sv_up (sv_sts (sv_sts (sv_up (sv_sts (sv_sts S [1020, 1021, 1022, 1023, 5, 1011, 3, 4, 1007, 1009, 11, 12, 13, 14, 1024, 15, 16, 1031, 1032, 17, 18, 19, 20, 21, 22, 23, 24, 25, 1042, 1043, 1044, 1045, 1100001, 1100002, 1100005, 1100003, 1100004, 1100018, 1100019, 1100016, 1100035, 1100036] g5) [1020, 1021, 1022, 1023, 5, 1011, 3, 4, 1007, 1009, 11, 12, 13, 14, 1024, 15, 16, 1031, 1032, 17, 18, 19, 20, 21, 22, 23, 24, 25, 1042, 1043, 1044, 1045, 1100001, 1100002, 1100005, 1100003, 1100004, 1100018, 1100019, 1100016, 1100035, 1100036] g11) 1020 0 ((g11 1020 0) + (1 : Int))) [1020, 1021, 1022, 1023, 5, 1011, 3, 4, 1007, 1009, 11, 12, 13, 14, 1024, 15, 16, 1031, 1032, 17, 18, 19, 20, 21, 22, 23, 24, 25, 1042, 1043, 1044, 1045, 1100001, 1100002, 1100005, 1100003, 1100004, 1100018, 1100019, 1100016, 1100035, 1100036] g29) [1024, 11, 12, 13, 14, 1100019, 1100035] g37) 1100001 r41 (1 : Int)) 1100002 r41 ((17 * (20 - (S 1023 0)) + 17))) 1100005 r41 ((20 - (S 1023 0)))) := sv_mod.up md50 (by decide)
        refine sv_ghost sm_X 1100003 r41 (0 : Int) (by decide) ?_
        have ok55 : sm_ok (sv_up (sv_up (sv_up (sv_up (sv_sts (sv_sts (sv_up (sv_sts (sv_sts S [1020, 1021, 1022, 1023, 5, 1011, 3, 4, 1007, 1009, 11, 12, 13, 14, 1024, 15, 16, 1031, 1032, 17, 18, 19, 20, 21, 22, 23, 24, 25, 1042, 1043, 1044, 1045, 1100001, 1100002, 1100005, 1100003, 1100004, 1100018, 1100019, 1100016, 1100035, 1100036] g5) [1020, 1021, 1022, 1023, 5, 1011, 3, 4, 1007, 1009, 11, 12, 13, 14, 1024, 15, 16, 1031, 1032, 17, 18, 19, 20, 21, 22, 23, 24, 25, 1042, 1043, 1044, 1045, 1100001, 1100002, 1100005, 1100003, 1100004, 1100018, 1100019, 1100016, 1100035, 1100036] g11) 1020 0 ((g11 1020 0) + (1 : Int))) [1020, 1021, 1022, 1023, 5, 1011, 3, 4, 1007, 1009, 11, 12, 13, 14, 1024, 15, 16, 1031, 1032, 17, 18, 19, 20, 21, 22, 23, 24, 25, 1042, 1043, 1044, 1045, 1100001, 1100002, 1100005, 1100003, 1100004, 1100018, 1100019, 1100016, 1100035, 1100036] g29) [1024, 11, 12, 13, 14, 1100019, 1100035] g37) 1100001 r41 (1 : Int)) 1100002 r41 ((17 * (20 - (S 1023 0)) + 17))) 1100005 r41 ((20 - (S 1023 0)))) 1100003 r41 (0 : Int)) := sm_upI ok52 sm_r1100003 (⟨by decide, by decide⟩ : sv_R (0 : Int))
        have md56 : sv_mod [1020, 1021, 1022, 1023, 5, 1011, 3, 4, 1007, 1009, 11, 12, 13, 14, 1024, 15, 16, 1031, 1032, 17, 18, 19, 20, 21, 22, 23, 24, 25, 1042, 1043, 1044, 1045, 1100001, 1100002, 1100005, 1100003, 1100004, 1100018, 1100019, 1100016, 1100035, 1100036] S (sv_up (sv_up (sv_up (sv_up (sv_sts (sv_sts (sv_up (sv_sts (sv_sts S [1020, 1021, 1022, 1023, 5, 1011, 3, 4, 1007, 1009, 11, 12, 13, 14, 1024, 15, 16, 1031, 1032, 17, 18, 19, 20, 21, 22, 23, 24, 25, 1042, 1043, 1044, 1045, 1100001, 1100002, 1100005, 1100003, 1100004, 1100018, 1100019, 1100016, 1100035, 1100036] g5) [1020, 1021, 1022, 1023, 5, 1011, 3, 4, 1007, 1009, 11, 12, 13, 14, 1024, 15, 16, 1031, 1032, 17, 18, 19, 20, 21, 22, 23, 24, 25, 1042, 1043, 1044, 1045, 1100001, 1100002, 1100005, 1100003, 1100004, 1100018, 1100019, 1100016, 1100035, 1100036] g11) 1020 0 ((g11 1020 0) + (1 : Int))) [1020, 1021, 1022, 1023, 5, 1011, 3, 4, 1007, 1009, 11, 12, 13, 14, 1024, 15, 16, 1031, 1032, 17, 18, 19, 20, 21, 22, 23, 24, 25, 1042, 1043, 1044, 1045, 1100001, 1100002, 1100005, 1100003, 1100004, 1100018, 1100019, 1100016, 1100035, 1100036] g29) [1024, 11, 12, 13, 14, 1100019, 1100035] g37) 1100001 r41 (1 : Int)) 1100002 r41 ((17 * (20 - (S 1023 0)) + 17))) 1100005 r41 ((20 - (S 1023 0)))) 1100003 r41 (0 : Int)) := sv_mod.up md53 (by decide)
        have md57 : sv_mod [1020, 1021, 1022, 1023, 5, 1011, 3, 4, 1007, 1009, 11, 12, 13, 14, 1024, 15, 16, 1031, 1032, 17, 18, 19, 20, 21, 22, 23, 24, 25, 1042, 1043, 1044, 1045, 1100001, 1100002, 1100005, 1100003, 1100004, 1100018, 1100019, 1100016, 1100035, 1100036] (sv_sts S [1020, 1021, 1022, 1023, 5, 1011, 3, 4, 1007, 1009, 11, 12, 13, 14, 1024, 15, 16, 1031, 1032, 17, 18, 19, 20, 21, 22, 23, 24, 25, 1042, 1043, 1044, 1045, 1100001, 1100002, 1100005, 1100003, 1100004, 1100018, 1100019, 1100016, 1100035, 1100036] g5) (sv_up (sv_up (sv_up (sv_up (sv_sts (sv_sts (sv_up (sv_sts (sv_sts S [1020, 1021, 1022, 1023, 5, 1011, 3, 4, 1007, 1009, 11, 12, 13, 14, 1024, 15, 16, 1031, 1032, 17, 18, 19, 20, 21, 22, 23, 24, 25, 1042, 1043, 1044, 1045, 1100001, 1100002, 1100005, 1100003, 1100004, 1100018, 1100019, 1100016, 1100035, 1100036] g5) [1020, 1021, 1022, 1023, 5, 1011, 3, 4, 1007, 1009, 11, 12, 13, 14, 1024, 15, 16, 1031, 1032, 17, 18, 19, 20, 21, 22, 23, 24, 25, 1042, 1043, 1044, 1045, 1100001, 1100002, 1100005, 1100003, 1100004, 1100018, 1100019, 1100016, 1100035, 1100036] g11) 1020 0 ((g11 1020 0) + (1 : Int))) [1020, 1021, 1022, 1023, 5, 1011, 3, 4, 1007, 1009, 11, 12, 13, 14, 1024, 15, 16, 1031, 1032, 17, 18, 19, 20, 21, 22, 23, 24, 25, 1042, 1043, 1044, 1045, 1100001, 1100002, 1100005, 1100003, 1100004, 1100018, 1100019, 1100016, 1100035, 1100036] g29) [1024, 11, 12, 13, 14, 1100019, 1100035] g37) 1100001 r41 (1 : Int)) 1100002 r41 ((17 * (20 - (S 1023 0)) + 17))) 1100005 r41 ((20 - (S 1023 0)))) 1100003 r41 (0 : Int)) := sv_mod.up md54 (by decide)
        refine sv_ghost sm_X 1100004 r41 (0 : Int) (by decide) ?_
        have ok58 : sm_ok (sv_up (sv_up (sv_up (sv_up (sv_up (sv_sts (sv_sts (sv_up (sv_sts (sv_sts S [1020, 1021, 1022, 1023, 5, 1011, 3, 4, 1007, 1009, 11, 12, 13, 14, 1024, 15, 16, 1031, 1032, 17, 18, 19, 20, 21, 22, 23, 24, 25, 1042, 1043, 1044, 1045, 1100001, 1100002, 1100005, 1100003, 1100004, 1100018, 1100019, 1100016, 1100035, 1100036] g5) [1020, 1021, 1022, 1023, 5, 1011, 3, 4, 1007, 1009, 11, 12, 13, 14, 1024, 15, 16, 1031, 1032, 17, 18, 19, 20, 21, 22, 23, 24, 25, 1042, 1043, 1044, 1045, 1100001, 1100002, 1100005, 1100003, 1100004, 1100018, 1100019, 1100016, 1100035, 1100036] g11) 1020 0 ((g11 1020 0) + (1 : Int))) [1020, 1021, 1022, 1023, 5, 1011, 3, 4, 1007, 1009, 11, 12, 13, 14, 1024, 15, 16, 1031, 1032, 17, 18, 19, 20, 21, 22, 23, 24, 25, 1042, 1043, 1044, 1045, 1100001, 1100002, 1100005, 1100003, 1100004, 1100018, 1100019, 1100016, 1100035, 1100036] g29) [1024, 11, 12, 13, 14, 1100019, 1100035] g37) 1100001 r41 (1 : Int)) 1100002 r41 ((17 * (20 - (S 1023 0)) + 17))) 1100005 r41 ((20 - (S 1023 0)))) 1100003 r41 (0 : Int)) 1100004 r41 (0 : Int)) := sm_upI ok55 sm_r1100004 (⟨by decide, by decide⟩ : sv_R (0 : Int))
        have md59 : sv_mod [1020, 1021, 1022, 1023, 5, 1011, 3, 4, 1007, 1009, 11, 12, 13, 14, 1024, 15, 16, 1031, 1032, 17, 18, 19, 20, 21, 22, 23, 24, 25, 1042, 1043, 1044, 1045, 1100001, 1100002, 1100005, 1100003, 1100004, 1100018, 1100019, 1100016, 1100035, 1100036] S (sv_up (sv_up (sv_up (sv_up (sv_up (sv_sts (sv_sts (sv_up (sv_sts (sv_sts S [1020, 1021, 1022, 1023, 5, 1011, 3, 4, 1007, 1009, 11, 12, 13, 14, 1024, 15, 16, 1031, 1032, 17, 18, 19, 20, 21, 22, 23, 24, 25, 1042, 1043, 1044, 1045, 1100001, 1100002, 1100005, 1100003, 1100004, 1100018, 1100019, 1100016, 1100035, 1100036] g5) [1020, 1021, 1022, 1023, 5, 1011, 3, 4, 1007, 1009, 11, 12, 13, 14, 1024, 15, 16, 1031, 1032, 17, 18, 19, 20, 21, 22, 23, 24, 25, 1042, 1043, 1044, 1045, 1100001, 1100002, 1100005, 1100003, 1100004, 1100018, 1100019, 1100016, 1100035, 1100036] g11) 1020 0 ((g11 1020 0) + (1 : Int))) [1020, 1021, 1022, 1023, 5, 1011, 3, 4, 1007, 1009, 11, 12, 13, 14, 1024, 15, 16, 1031, 1032, 17, 18, 19, 20, 21, 22, 23, 24, 25, 1042, 1043, 1044, 1045, 1100001, 1100002, 1100005, 1100003, 1100004, 1100018, 1100019, 1100016, 1100035, 1100036] g29) [1024, 11, 12, 13, 14, 1100019, 1100035] g37) 1100001 r41 (1 : Int)) 1100002 r41 ((17 * (20 - (S 1023 0)) + 17))) 1100005 r41 ((20 - (S 1023 0)))) 1100003 r41 (0 : Int)) 1100004 r41 (0 : Int)) := sv_mod.up md56 (by decide)
        have md60 : sv_mod [1020, 1021, 1022, 1023, 5, 1011, 3, 4, 1007, 1009, 11, 12, 13, 14, 1024, 15, 16, 1031, 1032, 17, 18, 19, 20, 21, 22, 23, 24, 25, 1042, 1043, 1044, 1045, 1100001, 1100002, 1100005, 1100003, 1100004, 1100018, 1100019, 1100016, 1100035, 1100036] (sv_sts S [1020, 1021, 1022, 1023, 5, 1011, 3, 4, 1007, 1009, 11, 12, 13, 14, 1024, 15, 16, 1031, 1032, 17, 18, 19, 20, 21, 22, 23, 24, 25, 1042, 1043, 1044, 1045, 1100001, 1100002, 1100005, 1100003, 1100004, 1100018, 1100019, 1100016, 1100035, 1100036] g5) (sv_up (sv_up (sv_up (sv_up (sv_up (sv_sts (sv_sts (sv_up (sv_sts (sv_sts S [1020, 1021, 1022, 1023, 5, 1011, 3, 4, 1007, 1009, 11, 12, 13, 14, 1024, 15, 16, 1031, 1032, 17, 18, 19, 20, 21, 22, 23, 24, 25, 1042, 1043, 1044, 1045, 1100001, 1100002, 1100005, 1100003, 1100004, 1100018, 1100019, 1100016, 1100035, 1100036] g5) [1020, 1021, 1022, 1023, 5, 1011, 3, 4, 1007, 1009, 11, 12, 13, 14, 1024, 15, 16, 1031, 1032, 17, 18, 19, 20, 21, 22, 23, 24, 25, 1042, 1043, 1044, 1045, 1100001, 1100002, 1100005, 1100003, 1100004, 1100018, 1100019, 1100016, 1100035, 1100036] g11) 1020 0 ((g11 1020 0) + (1 : Int))) [1020, 1021, 1022, 1023, 5, 1011, 3, 4, 1007, 1009, 11, 12, 13, 14, 1024, 15, 16, 1031, 1032, 17, 18, 19, 20, 21, 22, 23, 24, 25, 1042, 1043, 1044, 1045, 1100001, 1100002, 1100005, 1100003, 1100004, 1100018, 1100019, 1100016, 1100035, 1100036] g29) [1024, 11, 12, 13, 14, 1100019, 1100035] g37) 1100001 r41 (1 : Int)) 1100002 r41 ((17 * (20 - (S 1023 0)) + 17))) 1100005 r41 ((20 - (S 1023 0)))) 1100003 r41 (0 : Int)) 1100004 r41 (0 : Int)) := sv_mod.up md57 (by decide)
        have k61 : ((g29 1021 0) = 0 → sm_WG (g29 1100001) (g37 1100019) (g29 1043 0) → (g37 1100019 r41) = (g29 1043 0) → sm_WG (fun i' : Int => if i' = r41 then (1 : Int) else (g29 1100001) i') (g37 1100019) (g29 1043 0)) := fun _ a b => sm_WG_C a b
        have h := h k61
        have k62 : ((g29 1021 0) = 0 → sm_WF (g37 11) (g37 12) (g37 13) (g29 1100001) (g29 1100002) (g29 1100005) (g29 1100003) (g29 1100004) (g37 1024 0) (g29 1007 0) (g29 1009 0) (sm_fn (g29 1032 0) (g29 21) (g29 1043 0)) → (g29 1100001 r41) = 0 → 0 ≤ r41 → r41 < (g37 1024 0) → (g37 13 r41) = -1 → (g37 11 r41) = 3 → (sm_ex (g29 1100001) (g29 1100002) (g29 1100005) (g37 1024 0) 1 (g37 12 (5 * r41)) (17 * (20 - (S 1023 0)) + 17) (20 - (S 1023 0))) → ((g37 12 (5 * r41)) < r41) → (sm_ex (g29 1100001) (g29 1100002) (g29 1100005) (g37 1024 0) 1 (g37 12 (5 * r41 + 1)) (17 * (20 - (S 1023 0)) + 17) (20 - (S 1023 0))) → (0 ≤ (17 * (20 - (S 1023 0)) + 17)) → (0 ≤ (20 - (S 1023 0))) → ((g37 12 (5 * r41 + 1)) < r41) → sm_WF (g37 11) (g37 12) (g37 13) (fun i' : Int => if i' = r41 then (1 : Int) else (g29 1100001) i') (fun i' : Int => if i' = r41 then ((17 * (20 - (S 1023 0)) + 17)) else (g29 1100002) i') (fun i' : Int => if i' = r41 then ((20 - (S 1023 0))) else (g29 1100005) i') (fun i' : Int => if i' = r41 then (0 : Int) else (g29 1100003) i') (fun i' : Int => if i' = r41 then (0 : Int) else (g29 1100004) i') (g37 1024 0) (g29 1007 0) (g29 1009 0) (sm_fn (g29 1032 0) (g29 21) (g29 1043 0))) := fun a0 aW a1 a2 a3 a4 aS c1 c2 c3 c4 c5 c6 => (sm_mk1 aW a1 a2 a3 a4 (Or.inr ⟨rfl, sm_c1_3 aS c1 c2 c3⟩) ⟨c4, fun _ => c6, fun q => absurd q (by omega), c5⟩).1
        have h := h k62
        refine sv_istore_n hM dX12_expression_44 (by decide) rfl ?_
        show sv_T sm_XS sm_cs sm_L sm_sh (30 * (20 - (S 1023 0)) + 26).toNat (q_expression p1 S) 43 45 [(0, .ref 0), (1, sv_I p1), (2, sv_I r41)] [] (sv_up (sv_up (sv_up (sv_up (sv_up (sv_sts (sv_sts (sv_up (sv_sts (sv_sts S [1020, 1021, 1022, 1023, 5, 1011, 3, 4, 1007, 1009, 11, 12, 13, 14, 1024, 15, 16, 1031, 1032, 17, 18, 19, 20, 21, 22, 23, 24, 25, 1042, 1043, 1044, 1045, 1100001, 1100002, 1100005, 1100003, 1100004, 1100018, 1100019, 1100016, 1100035, 1100036] g5) [1020, 1021, 1022, 1023, 5, 1011, 3, 4, 1007, 1009, 11, 12, 13, 14, 1024, 15, 16, 1031, 1032, 17, 18, 19, 20, 21, 22, 23, 24, 25, 1042, 1043, 1044, 1045, 1100001, 1100002, 1100005, 1100003, 1100004, 1100018, 1100019, 1100016, 1100035, 1100036] g11) 1020 0 ((g11 1020 0) + (1 : Int))) [1020, 1021, 1022, 1023, 5, 1011, 3, 4, 1007, 1009, 11, 12, 13, 14, 1024, 15, 16, 1031, 1032, 17, 18, 19, 20, 21, 22, 23, 24, 25, 1042, 1043, 1044, 1045, 1100001, 1100002, 1100005, 1100003, 1100004, 1100018, 1100019, 1100016, 1100035, 1100036] g29) [1024, 11, 12, 13, 14, 1100019, 1100035] g37) 1100001 r41 (1 : Int)) 1100002 r41 ((17 * (20 - (S 1023 0)) + 17))) 1100005 r41 ((20 - (S 1023 0)))) 1100003 r41 (0 : Int)) 1100004 r41 (0 : Int))
        refine sv_goto hM dX12_expression_45 (pc' := 6) rfl ?_
        have eS := sv_mod.eq md60
        have hb := ih13 (r41, (sv_up (sv_up (sv_up (sv_up (sv_up (sv_sts (sv_sts (sv_up (sv_sts (sv_sts S [1020, 1021, 1022, 1023, 5, 1011, 3, 4, 1007, 1009, 11, 12, 13, 14, 1024, 15, 16, 1031, 1032, 17, 18, 19, 20, 21, 22, 23, 24, 25, 1042, 1043, 1044, 1045, 1100001, 1100002, 1100005, 1100003, 1100004, 1100018, 1100019, 1100016, 1100035, 1100036] g5) [1020, 1021, 1022, 1023, 5, 1011, 3, 4, 1007, 1009, 11, 12, 13, 14, 1024, 15, 16, 1031, 1032, 17, 18, 19, 20, 21, 22, 23, 24, 25, 1042, 1043, 1044, 1045, 1100001, 1100002, 1100005, 1100003, 1100004, 1100018, 1100019, 1100016, 1100035, 1100036] g11) 1020 0 ((g11 1020 0) + (1 : Int))) [1020, 1021, 1022, 1023, 5, 1011, 3, 4, 1007, 1009, 11, 12, 13, 14, 1024, 15, 16, 1031, 1032, 17, 18, 19, 20, 21, 22, 23, 24, 25, 1042, 1043, 1044, 1045, 1100001, 1100002, 1100005, 1100003, 1100004, 1100018, 1100019, 1100016, 1100035, 1100036] g29) [1024, 11, 12, 13, 14, 1100019, 1100035] g37) 1100001 r41 (1 : Int)) 1100002 r41 ((17 * (20 - (S 1023 0)) + 17))) 1100005 r41 ((20 - (S 1023 0)))) 1100003 r41 (0 : Int)) 1100004 r41 (0 : Int))) ⟨hr41, (by rw [← eS]; exact ok58), h.1⟩ h.2
        have hb : sv_T sm_XS sm_cs sm_L sm_sh (30 * (20 - (S 1023 0)) + 26).toNat (q_expression p1 S) 43 6 [(0, .ref 0), (1, sv_I p1), (2, sv_I r41)] [] (sv_up (sv_up (sv_up (sv_up (sv_up (sv_sts (sv_sts (sv_up (sv_sts (sv_sts S [1020, 1021, 1022, 1023, 5, 1011, 3, 4, 1007, 1009, 11, 12, 13, 14, 1024, 15, 16, 1031, 1032, 17, 18, 19, 20, 21, 22, 23, 24, 25, 1042, 1043, 1044, 1045, 1100001, 1100002, 1100005, 1100003, 1100004, 1100018, 1100019, 1100016, 1100035, 1100036] g5) [1020, 1021, 1022, 1023, 5, 1011, 3, 4, 1007, 1009, 11, 12, 13, 14, 1024, 15, 16, 1031, 1032, 17, 18, 19, 20, 21, 22, 23, 24, 25, 1042, 1043, 1044, 1045, 1100001, 1100002, 1100005, 1100003, 1100004, 1100018, 1100019, 1100016, 1100035, 1100036] g11) 1020 0 ((g11 1020 0) + (1 : Int))) [1020, 1021, 1022, 1023, 5, 1011, 3, 4, 1007, 1009, 11, 12, 13, 14, 1024, 15, 16, 1031, 1032, 17, 18, 19, 20, 21, 22, 23, 24, 25, 1042, 1043, 1044, 1045, 1100001, 1100002, 1100005, 1100003, 1100004, 1100018, 1100019, 1100016, 1100035, 1100036] g29) [1024, 11, 12, 13, 14, 1100019, 1100035] g37) 1100001 r41 (1 : Int)) 1100002 r41 ((17 * (20 - (S 1023 0)) + 17))) 1100005 r41 ((20 - (S 1023 0)))) 1100003 r41 (0 : Int)) 1100004 r41 (0 : Int)) := Eq.mpr (congrArg (fun Z => sv_T sm_XS sm_cs sm_L sm_sh (30 * (20 - (S 1023 0)) + 26).toNat (q_expression p1 S) 43 6 [(0, .ref 0), (1, sv_I p1), (2, sv_I r41)] [] Z) eS) hb
        exact sv_less (lv := [(0, .ref 0), (1, sv_I p1), (2, sv_I r41)]) (sv_Sub_cons rfl (sv_Sub_cons rfl (sv_Sub_cons rfl sv_Sub_nil))) hb
  have eS := sv_mod.eq (sv_mod.rf (l := [1020, 1021, 1022, 1023, 5, 1011, 3, 4, 1007, 1009, 11, 12, 13, 14, 1024, 15, 16, 1031, 1032, 17, 18, 19, 20, 21, 22, 23, 24, 25, 1042, 1043, 1044, 1045, 1100001, 1100002, 1100005, 1100003, 1100004, 1100018, 1100019, 1100016, 1100035, 1100036]) (S := (sv_sts S [1020, 1021, 1022, 1023, 5, 1011, 3, 4, 1007, 1009, 11, 12, 13, 14, 1024, 15, 16, 1031, 1032, 17, 18, 19, 20, 21, 22, 23, 24, 25, 1042, 1043, 1044, 1045, 1100001, 1100002, 1100005, 1100003, 1100004, 1100018, 1100019, 1100016, 1100035, 1100036] g5)))
  have hb := hJ (r9, (sv_sts S [1020, 1021, 1022, 1023, 5, 1011, 3, 4, 1007, 1009, 11, 12, 13, 14, 1024, 15, 16, 1031, 1032, 17, 18, 19, 20, 21, 22, 23, 24, 25, 1042, 1043, 1044, 1045, 1100001, 1100002, 1100005, 1100003, 1100004, 1100018, 1100019, 1100016, 1100035, 1100036] g5)) ⟨hr9, (by rw [← eS]; exact ok6), hin14⟩
  have hb : sv_T sm_XS sm_cs sm_L sm_sh (30 * (20 - (S 1023 0)) + 26).toNat (q_expression p1 S) 43 6 [(0, .ref 0), (1, sv_I p1), (2, sv_I r9)] [] (sv_sts S [1020, 1021, 1022, 1023, 5, 1011, 3, 4, 1007, 1009, 11, 12, 13, 14, 1024, 15, 16, 1031, 1032, 17, 18, 19, 20, 21, 22, 23, 24, 25, 1042, 1043, 1044, 1045, 1100001, 1100002, 1100005, 1100003, 1100004, 1100018, 1100019, 1100016, 1100035, 1100036] g5) := Eq.mpr (congrArg (fun Z => sv_T sm_XS sm_cs sm_L sm_sh (30 * (20 - (S 1023 0)) + 26).toNat (q_expression p1 S) 43 6 [(0, .ref 0), (1, sv_I p1), (2, sv_I r9)] [] Z) eS) hb
  exact hb
theorem la_opened_0 {x0 x1 : Int} (h0 : 0 ≤ x0) (h1 : x0 < x1) (h2 : x1 ≤ 4001) : 0 ≤ x0 ∧ x0 ≤ 4000 := by omega
theorem la_opened_1 {x0 : Int} (h0 : x0 ≤ 20) : 2 + 1 ≤ 30 * (20 - x0) + 14 := by omega
theorem la_opened_2 {x0 : Int} (h0 : x0 = 0 ∨ x0 = 1) : 0 ≤ x0 := by omega
theorem la_opened_3 {x0 : Int} (h0 : x0 = 0 ∨ x0 = 1) : x0 ≤ 1 := by omega
theorem la_opened_4 {x0 x1 x2 x3 : Int} (h0 : 0 ≤ x0) (h1 : x0 < x1) (h2 : x1 ≤ 4001) (h3 : 0 ≤ x2) (h4 : 0 ≤ x3) (h5 : x3 ≤ 20) : 0 ≤ x0 ∧ x0 ≤ 4000 ∧ 0 ≤ x2 ∧ (x2 = 0 → 0 ≤ x3 ∧ x3 ≤ 20) := by omega
theorem la_opened_5 {x0 : Int} (h0 : x0 ≤ 20) : 1 + 1 ≤ 30 * (20 - x0) + 14 := by omega
theorem la_opened_6 {x0 : Int} (h0 : x0 = 0) : ¬ 0 < x0 := by omega
theorem la_opened_7 {x0 : Int} (h0 : 0 ≤ x0) (h1 : x0 ≤ 1) : 0 ≤ x0 ∧ x0 ≤ 1 := by omega
theorem la_opened_8 {x0 : Int} (h0 : x0 = 1) : ¬ x0 = 0 := by omega
theorem la_opened_9 {x0 x1 : Int} (h0 : 0 ≤ x0) (h1 : x1 = x0 + 1) : 0 ≤ x1 := by omega
theorem la_opened_10 {x0 x1 : Int} (h0 : x0 = x1 + 1) (h1 : x1 < 20) : x0 ≤ 20 := by omega
theorem la_opened_11 {x0 x1 x2 : Int} (h0 : x0 ≤ 3 * x1 + 5) (h1 : x2 = x1 + 1) : x0 ≤ 3 * x2 + 5 := by omega
theorem la_opened_12 {x0 x1 x2 : Int} (h0 : x0 ≤ x1) (h1 : x2 = x1 + 1) : x0 ≤ x2 := by omega
theorem la_opened_13 {x0 : Int} (h0 : 0 < x0) : ¬ x0 = 0 := by omega
theorem la_opened_14 {x0 : Int} (h0 : x0 = 12) : 0 ≤ x0 := by omega
theorem la_opened_15 {x0 : Int} (h0 : 0 ≤ x0) (h1 : ¬ 0 < x0) : x0 = 0 := by omega
theorem la_opened_16 {x0 x1 x2 : Int} (h0 : x0 = 30 * (20 - x1) + 25) (h1 : x1 = x2 + 1) (h2 : x2 < 20) : 0 ≤ x0 := by omega
theorem la_opened_17 {x0 x1 x2 x3 : Int} (h0 : 30 * (20 - x0) + 14 = x1) (h1 : x2 = 30 * (20 - x3) + 25) (h2 : x3 = x0 + 1) : x2 < x1 := by omega
theorem la_opened_18 {x0 : Int} (h0 : 0 ≤ x0) (h1 : ¬ x0 = 0) : 0 < x0 := by omega
theorem la_opened_19 {x0 x1 x2 : Int} (h0 : x0 ≤ 20) (h1 : 30 * (20 - x0) + 14 = x1) (h2 : x2 = 12) : x2 < x1 := by omega
theorem la_opened_20 {x0 x1 x2 : Int} (h0 : x0 = 30 * (20 - x1) + 25) (h1 : x1 = x2 + 1) : x0 + 1 ≤ 30 * (20 - x2) + 14 := by omega
theorem la_opened_21 {x0 x1 : Int} (h0 : x0 ≤ 20) (h1 : x1 = 12) : x1 + 1 ≤ 30 * (20 - x0) + 14 := by omega
theorem la_opened_22 {x0 : Int} (h0 : x0 = 0) : x0 ≤ 1 := by omega
theorem la_opened_23 {x0 : Int} (h0 : x0 ≤ 1) (h1 : ¬ x0 = 1) : x0 < 1 := by omega
theorem la_opened_24 {x0 x1 x2 x3 x4 : Int} (h0 : 0 ≤ x0) (h1 : x0 = 0 → x1 = 0 ∧ x2 = x3 + 1 ∧ x3 < 20 ∧ x4 = 1) (h2 : x4 = 0) : 0 < x0 := by omega
theorem la_opened_25 {x0 : Int} (h0 : x0 ≤ 20) : 0 + 1 ≤ 30 * (20 - x0) + 14 := by omega
theorem la_opened_26 {x0 x1 : Int} (h0 : x0 = 0) : 0 < x0 → 0 < x1 := by omega
theorem la_opened_27 {x0 x1 x2 x3 x4 x5 x6 x7 x8 x9 x10 x11 : Int} (h0 : 0 ≤ x0) (h1 : 0 ≤ x1) (h2 : x1 = 0 → x2 = 0 ∧ x3 = x0 + 1 ∧ x0 < 20 ∧ x4 = 1) (h3 : 0 ≤ x5) (h4 : 0 < x1 → 0 < x5) (h5 : x5 = 0 → x6 = x3 ∧ x7 + 1 ≤ x8 + 2 * (x9 - x10)) (h6 : sv_R (x6 - 1) → x11 = x6 - 1) : x5 = 0 → x11 = x0 ∧ x7 + 1 ≤ x8 + 2 * (x9 - x10) := by omega
theorem la_opened_28 {x0 x1 x2 x3 x4 x5 x6 : Int} (h0 : x0 ≤ x1 + 2 * (x2 - x3) + 2 * x4) (h1 : x4 = 30 * (20 - x5) + 25) (h2 : x5 = x6 + 1) : x0 ≤ x1 + 2 * (x2 - x3) + 2 * (30 * (20 - x6) + 14) := by omega
theorem la_opened_29 {x0 x1 x2 x3 x4 : Int} (h0 : x0 ≤ 20) (h1 : x1 ≤ x2) (h2 : x3 = x4) : x3 ≤ x4 + 2 * (x2 - x1) + 2 * (30 * (20 - x0) + 14) := by omega
theorem la_opened_30 {x0 x1 x2 x3 x4 x5 x6 x7 x8 : Int} (h0 : x0 ≤ 20) (h1 : 0 ≤ x1) (h2 : x1 = 0 → x2 = 0 ∧ x3 = x0 + 1 ∧ x0 < 20 ∧ x4 = 1) (h3 : x5 ≤ x6) (h4 : 0 < x1 → x6 = x5 ∧ x7 = x8) (h5 : x4 = 0) : x7 ≤ x8 + 2 * (x6 - x5) + 2 * (30 * (20 - x0) + 14) := by omega
theorem la_opened_31 {x0 x1 x2 : Int} (h0 : 0 ≤ x0) (h1 : x1 = x2) (h2 : x2 = x0 + 1) (h3 : x0 < 20) : sv_R (x1 - 1) := by omega
theorem la_opened_32 {x0 x1 : Int} (h0 : x0 = x1 + 1) : 17 * (20 - x0) + 17 ≤ 17 * (20 - x1) := by omega
theorem la_opened_33 {x0 x1 : Int} (h0 : x0 = x1 + 1) : 20 - x0 ≤ 19 - x1 := by omega
set_option maxHeartbeats 8000000 in
theorem f_opened : ∀ (d : Int) (p1 : Int) (S : sv_S), sm_ok S → (0 ≤ p1 ∧ p1 ≤ 1) → (0 ≤ (S 1020 0) ∧ (S 1020 0) < (S 1012 0) ∧ sm_TK (S 6) (S 8) (S 9) (S 10) (S 1012 0) ∧ 0 ≤ (S 1021 0) ∧ 0 ≤ (S 1004 0) ∧ (S 1004 0) ≤ 4000 ∧ 1 ≤ (S 1007 0) ∧ (S 1007 0) ≤ 90 ∧ sm_LN (S 4) 400 (S 1007 0) ∧ ((S 1021 0) = 0 → sm_WF (S 11) (S 12) (S 13) (S 1100001) (S 1100002) (S 1100005) (S 1100003) (S 1100004) (S 1024 0) (S 1007 0) (S 1009 0) (sm_fn (S 1032 0) (S 21) (S 1043 0)) ∧ sm_FT (S 11) (S 12) (S 13) (S 1100019) (S 17) (S 18) (S 21) (S 19) (S 20) (S 22) (S 1100016) (S 1024 0) (S 1007 0) (S 1009 0) (S 1032 0) (S 1032 0) ∧ sm_WG (S 1100001) (S 1100019) (S 1043 0) ∧ (S 1100016 (S 1043 0)) = 0 ∧ sm_RG (S 11) (S 12) (S 13) (S 1100035) (S 1024 0)) ∧ -1 ≤ (S 1100036 0) ∧ (S 1100036 0) < (S 1024 0) ∧ sm_HD (S 23) (S 24) (S 1100018 0) (S 1007 0) ∧ sm_HD (S 25) (fun _ : Int => (S 1042 0)) 1 (S 1007 0) ∧ 0 ≤ (S 1043 0) ∧ (S 1043 0) < (S 1100018 0) ∧ (S 1100018 0) = (S 1032 0) ∧ (S 1032 0) ≤ 1 + (S 1020 0) ∧ 0 ≤ (S 1031 0) ∧ (S 1031 0) ≤ 100 ∧ 0 ≤ (S 1044 0) ∧ (S 1044 0) ≤ 30 ∧ 0 ≤ (S 1045 0) ∧ (S 1045 0) ≤ 30 ∧ 0 ≤ (S 1024 0) ∧ ((S 1021 0) = 0 → 0 ≤ (S 1023 0) ∧ (S 1023 0) ≤ 20 ∧ (S 1031 0) ≤ 3 * (S 1023 0) + 5 ∧ (S 1024 0) ≤ 2 * (S 1020 0) ∧ (S 1044 0) ≤ (S 1023 0) ∧ (S 1045 0) ≤ (S 1023 0)) ∧ (S 1021 0) = 0) → (30 * (20 - (S 1023 0)) + 14) = d → (0 ≤ (S 1020 0) ∧ (S 1020 0) ≤ 4000) ∧ (2 + 1 ≤ (30 * (20 - (S 1023 0)) + 14)) ∧ (∀ r7 : Int, sv_R r7 → ((r7 = 0 ∨ r7 = 1) ∧ (r7 = 1 → 1 ≤ (S 6 (S 1020 0)) ∧ (S 6 (S 1020 0)) ≤ 5)) → (0 ≤ r7 ∧ r7 ≤ 1) ∧ (0 ≤ (S 1020 0) ∧ (S 1020 0) ≤ 4000 ∧ 0 ≤ (S 1021 0) ∧ ((S 1021 0) = 0 → 0 ≤ (S 1023 0) ∧ (S 1023 0) ≤ 20)) ∧ (1 + 1 ≤ (30 * (20 - (S 1023 0)) + 14)) ∧ (∀ g11 : sv_S, (0 ≤ (g11 1021 0) ∧ (0 < (S 1021 0) → 0 < (g11 1021 0)) ∧ ((g11 1021 0) = 0 → (S 1021 0) = 0 ∧ (g11 1023 0) = (S 1023 0) + 1 ∧ (S 1023 0) < 20 ∧ r7 = 1)) → (0 ≤ p1 ∧ p1 ≤ 1) ∧ (0 ≤ (S 1020 0) ∧ (S 1020 0) < (S 1012 0) ∧ sm_TK (S 6) (S 8) (S 9) (S 10) (S 1012 0) ∧ 0 ≤ (g11 1021 0) ∧ 0 ≤ (S 1004 0) ∧ (S 1004 0) ≤ 4000 ∧ 1 ≤ (S 1007 0) ∧ (S 1007 0) ≤ 90 ∧ sm_LN (S 4) 400 (S 1007 0) ∧ ((g11 1021 0) = 0 → sm_WF (S 11) (S 12) (S 13) (S 1100001) (S 1100002) (S 1100005) (S 1100003) (S 1100004) (S 1024 0) (S 1007 0) (S 1009 0) (sm_fn (S 1032 0) (S 21) (S 1043 0)) ∧ sm_FT (S 11) (S 12) (S 13) (S 1100019) (S 17) (S 18) (S 21) (S 19) (S 20) (S 22) (S 1100016) (S 1024 0) (S 1007 0) (S 1009 0) (S 1032 0) (S 1032 0) ∧ sm_WG (S 1100001) (S 1100019) (S 1043 0) ∧ (S 1100016 (S 1043 0)) = 0 ∧ sm_RG (S 11) (S 12) (S 13) (S 1100035) (S 1024 0)) ∧ -1 ≤ (S 1100036 0) ∧ (S 1100036 0) < (S 1024 0) ∧ sm_HD (S 23) (S 24) (S 1100018 0) (S 1007 0) ∧ sm_HD (S 25) (fun _ : Int => (S 1042 0)) 1 (S 1007 0) ∧ 0 ≤ (S 1043 0) ∧ (S 1043 0) < (S 1100018 0) ∧ (S 1100018 0) = (S 1032 0) ∧ (S 1032 0) ≤ 1 + (S 1020 0) ∧ 0 ≤ (S 1031 0) ∧ (S 1031 0) ≤ 100 ∧ 0 ≤ (S 1044 0) ∧ (S 1044 0) ≤ 30 ∧ 0 ≤ (S 1045 0) ∧ (S 1045 0) ≤ 30 ∧ 0 ≤ (S 1024 0) ∧ ((g11 1021 0) = 0 → 0 ≤ (g11 1023 0) ∧ (g11 1023 0) ≤ 20 ∧ (S 1031 0) ≤ 3 * (g11 1023 0) + 5 ∧ (S 1024 0) ≤ 2 * (S 1020 0) ∧ (S 1044 0) ≤ (g11 1023 0) ∧ (S 1045 0) ≤ (g11 1023 0))) ∧ (0 ≤ ((if 0 < (g11 1021 0) then 12 else 30 * (20 - (g11 1023 0)) + 25)) ∧ ((if 0 < (g11 1021 0) then 12 else 30 * (20 - (g11 1023 0)) + 25)) < d) ∧ (0 ≤ ((if 0 < (g11 1021 0) then 12 else 30 * (20 - (g11 1023 0)) + 25)) ∧ ((if 0 < (g11 1021 0) then 12 else 30 * (20 - (g11 1023 0)) + 25)) + 1 ≤ (30 * (20 - (S 1023 0)) + 14)) ∧ (∀ r24 : Int, sv_R r24 → ∀ g20 : sv_S, ((S 1020 0) ≤ (g20 1020 0) ∧ (g20 1020 0) < (S 1012 0) ∧ 0 ≤ (g20 1021 0) ∧ (0 < (g11 1021 0) → 0 < (g20 1021 0)) ∧ (S 1007 0) ≤ (g20 1007 0) ∧ (g20 1007 0) ≤ 90 ∧ sm_LN (g20 4) 400 (g20 1007 0) ∧ ((S 1009 0) = 1 → (g20 1009 0) = 1) ∧ ((g20 1021 0) = 0 → sm_WF (g20 11) (g20 12) (g20 13) (g20 1100001) (g20 1100002) (g20 1100005) (g20 1100003) (g20 1100004) (g20 1024 0) (g20 1007 0) (g20 1009 0) (sm_fn (g20 1032 0) (g20 21) (g20 1043 0)) ∧ sm_PX (S 11) (S 12) (S 13) (S 1100001) (S 1100002) (S 1100005) (S 1100003) (S 1100004) (g20 11) (g20 12) (g20 13) (g20 1100001) (g20 1100002) (g20 1100005) (g20 1100003) (g20 1100004) (S 1024 0) ∧ sm_FT (g20 11) (g20 12) (g20 13) (g20 1100019) (g20 17) (g20 18) (g20 21) (g20 19) (g20 20) (g20 22) (g20 1100016) (g20 1024 0) (g20 1007 0) (g20 1009 0) (g20 1032 0) (g20 1032 0) ∧ sm_WG (g20 1100001) (g20 1100019) (g20 1043 0) ∧ sm_F1 (S 1100019) (g20 1100019) (S 1024 0) ∧ sm_F1 (S 1100035) (g20 1100035) (S 1024 0) ∧ sm_F1 (S 17) (g20 17) (S 1032 0) ∧ sm_F1 (S 18) (g20 18) (S 1032 0) ∧ sm_F1 (S 21) (g20 21) (S 1032 0) ∧ sm_F1 (S 20) (g20 20) (S 1032 0) ∧ sm_F1 (S 22) (g20 22) (S 1032 0) ∧ sm_F1 (S 1100016) (g20 1100016) (S 1032 0) ∧ sm_F1 (S 19) (g20 19) (8 * (S 1032 0)) ∧ sm_FN (g20 1100016) (S 1032 0) (g20 1032 0) ∧ sm_RG (g20 11) (g20 12) (g20 13) (g20 1100035) (g20 1024 0)) ∧ (g20 1100036 0) = (S 1100036 0) ∧ sm_KL (S 15) (S 16) (g20 15) (g20 16) (S 1031 0) ∧ sm_HD (g20 23) (g20 24) (g20 1100018 0) (g20 1007 0) ∧ sm_HD (g20 25) (fun _ : Int => (g20 1042 0)) 1 (g20 1007 0) ∧ (g20 1031 0) = (S 1031 0) ∧ (g20 1043 0) = (S 1043 0) ∧ (g20 1044 0) = (S 1044 0) ∧ (g20 1045 0) = (S 1045 0) ∧ (S 1032 0) ≤ (g20 1032 0) ∧ (g20 1032 0) ≤ 1 + (g20 1020 0) ∧ (g20 1100018 0) = (g20 1032 0) ∧ (S 1024 0) ≤ (g20 1024 0) ∧ ((g20 1021 0) = 0 → (g20 1023 0) = (g11 1023 0) ∧ (g20 1024 0) + 1 ≤ (S 1024 0) + 2 * ((g20 1020 0) - (S 1020 0))) ∧ (0 < (g20 1021 0) → (g20 1024 0) ≤ (S 1024 0) + 2 * ((g20 1020 0) - (S 1020 0)) + 2 * ((if 0 < (g11 1021 0) then 12 else 30 * (20 - (g11 1023 0)) + 25))) ∧ -1 ≤ r24 ∧ r24 < 12000 ∧ ((g20 1021 0) = 0 → (S 1020 0) < (g20 1020 0) ∧ 1 ≤ (S 6 (S 1020 0)) ∧ sm_ex (g20 1100001) (g20 1100002) (g20 1100005) (g20 1024 0) 1 r24 (17 * (20 - (g11 1023 0)) + 17) (20 - (g11 1023 0)) ∧ ((g20 11 r24) = 2 ∨ (g20 11 r24) = 7 → (g20 1100002 r24) ≤ 17 * (20 - (g11 1023 0)) + 2)) ∧ (0 < (g11 1021 0) → (g20 1020 0) = (S 1020 0) ∧ (g20 1024 0) = (S 1024 0))) → (0 + 1 ≤ (30 * (20 - (S 1023 0)) + 14)) ∧ (∀ g27 : sv_S, ((sv_R ((g20 1023 0) - 1) → (g27 1023 0) = (g20 1023 0) - 1)) → ((S 1020 0) ≤ (g20 1020 0) ∧ (g20 1020 0) < (S 1012 0) ∧ 0 ≤ (g20 1021 0) ∧ (0 < (S 1021 0) → 0 < (g20 1021 0)) ∧ (S 1007 0) ≤ (g20 1007 0) ∧ (g20 1007 0) ≤ 90 ∧ sm_LN (g20 4) 400 (g20 1007 0) ∧ ((S 1009 0) = 1 → (g20 1009 0) = 1) ∧ ((g20 1021 0) = 0 → sm_WF (g20 11) (g20 12) (g20 13) (g20 1100001) (g20 1100002) (g20 1100005) (g20 1100003) (g20 1100004) (g20 1024 0) (g20 1007 0) (g20 1009 0) (sm_fn (g20 1032 0) (g20 21) (g20 1043 0)) ∧ sm_PX (S 11) (S 12) (S 13) (S 1100001) (S 1100002) (S 1100005) (S 1100003) (S 1100004) (g20 11) (g20 12) (g20 13) (g20 1100001) (g20 1100002) (g20 1100005) (g20 1100003) (g20 1100004) (S 1024 0) ∧ sm_FT (g20 11) (g20 12) (g20 13) (g20 1100019) (g20 17) (g20 18) (g20 21) (g20 19) (g20 20) (g20 22) (g20 1100016) (g20 1024 0) (g20 1007 0) (g20 1009 0) (g20 1032 0) (g20 1032 0) ∧ sm_WG (g20 1100001) (g20 1100019) (g20 1043 0) ∧ sm_F1 (S 1100019) (g20 1100019) (S 1024 0) ∧ sm_F1 (S 1100035) (g20 1100035) (S 1024 0) ∧ sm_F1 (S 17) (g20 17) (S 1032 0) ∧ sm_F1 (S 18) (g20 18) (S 1032 0) ∧ sm_F1 (S 21) (g20 21) (S 1032 0) ∧ sm_F1 (S 20) (g20 20) (S 1032 0) ∧ sm_F1 (S 22) (g20 22) (S 1032 0) ∧ sm_F1 (S 1100016) (g20 1100016) (S 1032 0) ∧ sm_F1 (S 19) (g20 19) (8 * (S 1032 0)) ∧ sm_FN (g20 1100016) (S 1032 0) (g20 1032 0) ∧ sm_RG (g20 11) (g20 12) (g20 13) (g20 1100035) (g20 1024 0)) ∧ (g20 1100036 0) = (S 1100036 0) ∧ sm_KL (S 15) (S 16) (g20 15) (g20 16) (S 1031 0) ∧ sm_HD (g20 23) (g20 24) (g20 1100018 0) (g20 1007 0) ∧ sm_HD (g20 25) (fun _ : Int => (g20 1042 0)) 1 (g20 1007 0) ∧ (g20 1031 0) = (S 1031 0) ∧ (g20 1043 0) = (S 1043 0) ∧ (g20 1044 0) = (S 1044 0) ∧ (g20 1045 0) = (S 1045 0) ∧ (S 1032 0) ≤ (g20 1032 0) ∧ (g20 1032 0) ≤ 1 + (g20 1020 0) ∧ (g20 1100018 0) = (g20 1032 0) ∧ (S 1024 0) ≤ (g20 1024 0) ∧ ((g20 1021 0) = 0 → (g27 1023 0) = (S 1023 0) ∧ (g20 1024 0) + 1 ≤ (S 1024 0) + 2 * ((g20 1020 0) - (S 1020 0))) ∧ (0 < (g20 1021 0) → (g20 1024 0) ≤ (S 1024 0) + 2 * ((g20 1020 0) - (S 1020 0)) + 2 * (30 * (20 - (S 1023 0)) + 14)) ∧ -1 ≤ r24 ∧ r24 < 12000 ∧ ((g20 1021 0) = 0 → sm_ex (g20 1100001) (g20 1100002) (g20 1100005) (g20 1024 0) 1 r24 (17 * (20 - (S 1023 0))) (19 - (S 1023 0)) ∧ (S 1020 0) < (g20 1020 0))))))) := by
  intro d
  intro p1
  intro S
  intro h1_
  rintro ⟨h2_, h3_⟩
  rintro ⟨h4_, ⟨h5_, ⟨h6_, ⟨h7_, ⟨h8_, ⟨h9_, ⟨h10_, ⟨h11_, ⟨h12_, ⟨h13_, ⟨h14_, ⟨h15_, ⟨h16_, ⟨h17_, ⟨h18_, ⟨h19_, ⟨h20_, ⟨h21_, ⟨h22_, ⟨h23_, ⟨h24_, ⟨h25_, ⟨h26_, ⟨h27_, ⟨h28_, ⟨h29_, h30_⟩⟩⟩⟩⟩⟩⟩⟩⟩⟩⟩⟩⟩⟩⟩⟩⟩⟩⟩⟩⟩⟩⟩⟩⟩⟩
  obtain ⟨h31_, ⟨h32_, ⟨h33_, ⟨h34_, ⟨h35_, h36_⟩⟩⟩⟩⟩ := (h29_ h30_)
  obtain ⟨h37_, ⟨h38_, ⟨h39_, ⟨h40_, h41_⟩⟩⟩⟩ := (h13_ h30_)
  intro h42_
  refine ⟨(la_opened_0 h4_ h5_ (sm_TK_t h6_).2), ?_⟩
  refine ⟨(la_opened_1 h32_), ?_⟩
  intro r7
  intro h43_
  rintro ⟨h44_, h45_⟩
  refine ⟨?_, ?_⟩
  · skip
    refine ⟨?_, ?_⟩
    · skip
      exact (la_opened_2 h44_)
    exact (la_opened_3 h44_)
  refine ⟨(la_opened_4 h4_ h5_ (sm_TK_t h6_).2 h7_ h31_ h32_), ?_⟩
  refine ⟨(la_opened_5 h32_), ?_⟩
  intro g11
  rintro ⟨h46_, ⟨h47_, h48_⟩⟩
  refine ⟨(la_opened_7 h2_ h3_), ?_⟩
  refine ⟨?_, ?_⟩
  · skip
    refine ⟨h4_, ?_⟩
    refine ⟨h5_, ?_⟩
    refine ⟨h6_, ?_⟩
    refine ⟨h46_, ?_⟩
    refine ⟨h8_, ?_⟩
    refine ⟨h9_, ?_⟩
    refine ⟨h10_, ?_⟩
    refine ⟨h11_, ?_⟩
    refine ⟨h12_, ?_⟩
    refine ⟨?_, ?_⟩
    · skip
      intro h49_
      obtain ⟨h50_, ⟨h51_, ⟨h52_, h53_⟩⟩⟩ := (h48_ h49_)
      have h54_ := (h44_.resolve_left (la_opened_8 h53_))
      obtain ⟨h55_, h56_⟩ := (h45_ h53_)
      refine ⟨h37_, ?_⟩
      refine ⟨h38_, ?_⟩
      refine ⟨h39_, ?_⟩
      refine ⟨h40_, ?_⟩
      exact h41_
    refine ⟨h14_, ?_⟩
    refine ⟨h15_, ?_⟩
    refine ⟨h16_, ?_⟩
    refine ⟨h17_, ?_⟩
    refine ⟨h18_, ?_⟩
    refine ⟨h19_, ?_⟩
    refine ⟨h20_, ?_⟩
    refine ⟨h21_, ?_⟩
    refine ⟨h22_, ?_⟩
    refine ⟨h23_, ?_⟩
    refine ⟨h24_, ?_⟩
    refine ⟨h25_, ?_⟩
    refine ⟨h26_, ?_⟩
    refine ⟨h27_, ?_⟩
    refine ⟨h28_, ?_⟩
    intro h57_
    obtain ⟨h58_, ⟨h59_, ⟨h60_, h61_⟩⟩⟩ := (h48_ h57_)
    have h62_ := (h44_.resolve_left (la_opened_8 h61_))
    obtain ⟨h63_, h64_⟩ := (h45_ h61_)
    refine ⟨(la_opened_9 h31_ h59_), ?_⟩
    refine ⟨(la_opened_10 h59_ h60_), ?_⟩
    refine ⟨(la_opened_11 h33_ h59_), ?_⟩
    refine ⟨h34_, ?_⟩
    refine ⟨(la_opened_12 h35_ h59_), ?_⟩
    exact (la_opened_12 h36_ h59_)
  refine ⟨?_, ?_⟩
  · skip
    refine ⟨?_, ?_⟩
    · skip
      by_cases c65_ : 0 < g11 1021 0
      · skip
        have e66_ : (if 0 < g11 1021 0 then 12 else 30 * (20 - g11 1023 0) + 25 : Int) = 12 := if_pos c65_
        exact (la_opened_14 e66_)
      · skip
        have e67_ : (if 0 < g11 1021 0 then 12 else 30 * (20 - g11 1023 0) + 25 : Int) = 30 * (20 - g11 1023 0) + 25 := if_neg c65_
        obtain ⟨h68_, ⟨h69_, ⟨h70_, h71_⟩⟩⟩ := (h48_ (la_opened_15 h46_ c65_))
        have h72_ := (h44_.resolve_left (la_opened_8 h71_))
        obtain ⟨h73_, h74_⟩ := (h45_ h71_)
        have h75_ := ((sm_TK_go h6_ (S 1020 0) h4_ h5_) h73_)
        have h76_ := (h75_ h74_)
        exact (la_opened_16 e67_ h69_ h70_)
    by_cases c77_ : g11 1021 0 = 0
    · skip
      have e78_ : (if 0 < g11 1021 0 then 12 else 30 * (20 - g11 1023 0) + 25 : Int) = 30 * (20 - g11 1023 0) + 25 := if_neg (la_opened_6 c77_)
      obtain ⟨h79_, ⟨h80_, ⟨h81_, h82_⟩⟩⟩ := (h48_ c77_)
      have h83_ := (h44_.resolve_left (la_opened_8 h82_))
      obtain ⟨h84_, h85_⟩ := (h45_ h82_)
      have h86_ := ((sm_TK_go h6_ (S 1020 0) h4_ h5_) h84_)
      have h87_ := (h86_ h85_)
      exact (la_opened_17 h42_ e78_ h80_)
    · skip
      have e88_ : (if 0 < g11 1021 0 then 12 else 30 * (20 - g11 1023 0) + 25 : Int) = 12 := if_pos (la_opened_18 h46_ c77_)
      exact (la_opened_19 h32_ h42_ e88_)
  refine ⟨?_, ?_⟩
  · skip
    refine ⟨?_, ?_⟩
    · skip
      by_cases c89_ : 0 < g11 1021 0
      · skip
        have e90_ : (if 0 < g11 1021 0 then 12 else 30 * (20 - g11 1023 0) + 25 : Int) = 12 := if_pos c89_
        exact (la_opened_14 e90_)
      · skip
        have e91_ : (if 0 < g11 1021 0 then 12 else 30 * (20 - g11 1023 0) + 25 : Int) = 30 * (20 - g11 1023 0) + 25 := if_neg c89_
        obtain ⟨h92_, ⟨h93_, ⟨h94_, h95_⟩⟩⟩ := (h48_ (la_opened_15 h46_ c89_))
        have h96_ := (h44_.resolve_left (la_opened_8 h95_))
        obtain ⟨h97_, h98_⟩ := (h45_ h95_)
        have h99_ := ((sm_TK_go h6_ (S 1020 0) h4_ h5_) h97_)
        have h100_ := (h99_ h98_)
        exact (la_opened_16 e91_ h93_ h94_)
    by_cases c101_ : r7 = 1
    · skip
      have h102_ := (h44_.resolve_left (la_opened_8 c101_))
      obtain ⟨h103_, h104_⟩ := (h45_ c101_)
      have h105_ := ((sm_TK_go h6_ (S 1020 0) h4_ h5_) h103_)
      have h106_ := (h105_ h104_)
      by_cases c107_ : g11 1021 0 = 0
      · skip
        have e108_ : (if 0 < g11 1021 0 then 12 else 30 * (20 - g11 1023 0) + 25 : Int) = 30 * (20 - g11 1023 0) + 25 := if_neg (la_opened_6 c107_)
        obtain ⟨h109_, ⟨h110_, ⟨h111_, h112_⟩⟩⟩ := (h48_ c107_)
        exact (la_opened_20 e108_ h110_)
      · skip
        have e113_ : (if 0 < g11 1021 0 then 12 else 30 * (20 - g11 1023 0) + 25 : Int) = 12 := if_pos (la_opened_18 h46_ c107_)
        exact (la_opened_21 h32_ e113_)
    · skip
      have h114_ := (h44_.resolve_right c101_)
      have e115_ : (if 0 < g11 1021 0 then 12 else 30 * (20 - g11 1023 0) + 25 : Int) = 12 := if_pos (la_opened_24 h46_ h48_ h114_)
      exact (la_opened_21 h32_ e115_)
  intro r24
  intro h116_
  intro g20
  rintro ⟨h117_, ⟨h118_, ⟨h119_, ⟨h120_, ⟨h121_, ⟨h122_, ⟨h123_, ⟨h124_, ⟨h125_, ⟨h126_, ⟨h127_, ⟨h128_, ⟨h129_, ⟨h130_, ⟨h131_, ⟨h132_, ⟨h133_, ⟨h134_, ⟨h135_, ⟨h136_, ⟨h137_, ⟨h138_, ⟨h139_, ⟨h140_, ⟨h141_, ⟨h142_, h143_⟩⟩⟩⟩⟩⟩⟩⟩⟩⟩⟩⟩⟩⟩⟩⟩⟩⟩⟩⟩⟩⟩⟩⟩⟩⟩
  refine ⟨(la_opened_25 h32_), ?_⟩
  intro g27
  intro h144_
  refine ⟨h117_, ?_⟩
  refine ⟨h118_, ?_⟩
  refine ⟨h119_, ?_⟩
  refine ⟨(la_opened_26 h30_), ?_⟩
  refine ⟨h121_, ?_⟩
  refine ⟨h122_, ?_⟩
  refine ⟨h123_, ?_⟩
  refine ⟨h124_, ?_⟩
  refine ⟨h125_, ?_⟩
  refine ⟨h126_, ?_⟩
  refine ⟨h127_, ?_⟩
  refine ⟨h128_, ?_⟩
  refine ⟨h129_, ?_⟩
  refine ⟨h130_, ?_⟩
  refine ⟨h131_, ?_⟩
  refine ⟨h132_, ?_⟩
  refine ⟨h133_, ?_⟩
  refine ⟨h134_, ?_⟩
  refine ⟨h135_, ?_⟩
  refine ⟨h136_, ?_⟩
  refine ⟨h137_, ?_⟩
  refine ⟨(la_opened_27 h31_ h46_ h48_ h119_ h120_ h138_ h144_), ?_⟩
  refine ⟨?_, ?_⟩
  · skip
    intro h145_
    have h146_ := (h139_ h145_)
    by_cases c147_ : r7 = 1
    · skip
      have h148_ := (h44_.resolve_left (la_opened_8 c147_))
      obtain ⟨h149_, h150_⟩ := (h45_ c147_)
      have h151_ := ((sm_TK_go h6_ (S 1020 0) h4_ h5_) h149_)
      have h152_ := (h151_ h150_)
      by_cases c153_ : g11 1021 0 = 0
      · skip
        have e154_ : (if 0 < g11 1021 0 then 12 else 30 * (20 - g11 1023 0) + 25 : Int) = 30 * (20 - g11 1023 0) + 25 := if_neg (la_opened_6 c153_)
        obtain ⟨h155_, ⟨h156_, ⟨h157_, h158_⟩⟩⟩ := (h48_ c153_)
        exact (la_opened_28 h146_ e154_ h156_)
      · skip
        have e159_ : (if 0 < g11 1021 0 then 12 else 30 * (20 - g11 1023 0) + 25 : Int) = 12 := if_pos (la_opened_18 h46_ c153_)
        have h160_ := (h120_ (la_opened_18 h46_ c153_))
        obtain ⟨h161_, h162_⟩ := (h143_ (la_opened_18 h46_ c153_))
        exact (la_opened_29 h32_ h117_ h162_)
    · skip
      have h163_ := (h44_.resolve_right c147_)
      exact (la_opened_30 h32_ h46_ h48_ h117_ h143_ h163_)
  refine ⟨h140_, ?_⟩
  refine ⟨h141_, ?_⟩
  intro h164_
  have h165_ : ¬ (0 < g11 1021 0) := fun q_ => (la_opened_6 h164_) (h120_ q_)
  obtain ⟨h166_, h167_⟩ := (h138_ h164_)
  obtain ⟨h168_, ⟨h169_, ⟨h170_, ⟨h171_, ⟨h172_, ⟨h173_, ⟨h174_, ⟨h175_, ⟨h176_, ⟨h177_, ⟨h178_, ⟨h179_, ⟨h180_, ⟨h181_, h182_⟩⟩⟩⟩⟩⟩⟩⟩⟩⟩⟩⟩⟩⟩ := (h125_ h164_)
  obtain ⟨h183_, ⟨h184_, ⟨h185_, h186_⟩⟩⟩ := (h142_ h164_)
  have e187_ : (if 0 < g11 1021 0 then 12 else 30 * (20 - g11 1023 0) + 25 : Int) = 30 * (20 - g11 1023 0) + 25 := if_neg h165_
  obtain ⟨h188_, ⟨h189_, ⟨h190_, h191_⟩⟩⟩ := (h48_ (la_opened_15 h46_ h165_))
  have h192_ := (h144_ (la_opened_31 h31_ h166_ h189_ h190_))
  have h193_ := (h44_.resolve_left (la_opened_8 h191_))
  obtain ⟨h194_, h195_⟩ := (h45_ h191_)
  refine ⟨(sm_ex_N (sm_ex_w h185_ (la_opened_32 h189_) (la_opened_33 h189_)) (Int.le_refl _)), ?_⟩
  exact h183_
set_option maxRecDepth 8000 in
set_option maxHeartbeats 2000000 in
theorem s_opened (d : Int) (h0 : 0 ≤ d) (IH : ∀ d' : Int, 0 ≤ d' → d' < d → P_P d') : T_opened d := by
  intro p1 S hok hp1 hpre hd
  have h := f_opened d p1 S hok hp1 hpre hd
  have hM := sm_h46
  show sv_T sm_XS sm_cs sm_L sm_sh (30 * (20 - (S 1023 0)) + 14).toNat (q_opened p1 S) 46 0 [(0, .ref 0), (1, sv_I p1)] [] S
  refine sv_aload_n hM dX12_opened_0 rfl rfl ?_
  refine sv_aload_n hM dX12_opened_1 rfl rfl ?_
  obtain ⟨o1, h⟩ := h
  obtain ⟨o2, h⟩ := h
  refine sv_callV hM dX12_opened_2 sm_iv_439 (by decide) (sm_a0 _) rfl rfl (Nat.le_of_ble_eq_true rfl) sm_h39 (Nat.le_of_ble_eq_true rfl) (Nat.le_of_ble_eq_true rfl) (F' := 2) (sv_Fn (n := 2) o2) rfl (t_beginsExpression  S hok o1) (fun v S1 hq => ?_)
  obtain ⟨r7, rfl, hr7, ok4, md5, hpo6⟩ := hq
  obtain rfl : S = S1 := (funext fun j => md5 j (by intro q; cases q)).symm
  show sv_T sm_XS sm_cs sm_L sm_sh (30 * (20 - (S 1023 0)) + 14).toNat (q_opened p1 S) 46 5 [(0, .ref 0), (1, sv_I p1)] [sv_I r7, .ref 0] S
  have h := h r7 hr7 hpo6
  obtain ⟨o8, h⟩ := h
  obtain ⟨o9, h⟩ := h
  obtain ⟨o10, h⟩ := h
  refine sv_callV hM dX12_opened_5 sm_iv_450 (by decide) (sm_a0 _) rfl rfl (Nat.le_of_ble_eq_true rfl) sm_h28 (Nat.le_of_ble_eq_true rfl) (Nat.le_of_ble_eq_true rfl) (F' := 1) (sv_Fn (n := 1) o10) rfl (t_open r7 S ok4 o8 o9) (fun v S1 hq => ?_)
  obtain ⟨rfl, ok12, md13, hpo14⟩ := hq
  obtain ⟨g11, rfl⟩ : ∃ g, S1 = sv_sts S [1021, 1022, 1023] g := ⟨_, md13.eq⟩
  show sv_T sm_XS sm_cs sm_L sm_sh (30 * (20 - (S 1023 0)) + 14).toNat (q_opened p1 S) 46 8 [(0, .ref 0), (1, sv_I p1)] [] (sv_sts S [1021, 1022, 1023] g11)
  have md15 : sv_mod [1020, 1021, 1022, 1023, 5, 1011, 3, 4, 1007, 1009, 11, 12, 13, 14, 1024, 15, 16, 1031, 1032, 17, 18, 19, 20, 21, 22, 23, 24, 25, 1042, 1043, 1044, 1045, 1100001, 1100002, 1100005, 1100003, 1100004, 1100018, 1100019, 1100016, 1100035, 1100036] S (sv_sts S [1021, 1022, 1023] g11) := sv_mod.sts sv_mod.rf (by decide)
  have h := h g11 hpo14
  refine sv_aload_n hM dX12_opened_8 rfl rfl ?_
  refine sv_iload_n hM dX12_opened_9 rfl rfl ?_
  obtain ⟨o16, h⟩ := h
  obtain ⟨o17, h⟩ := h
  obtain ⟨o18, h⟩ := h
  obtain ⟨o19, h⟩ := h
  refine sv_callV hM dX12_opened_10 sm_iv_442 (by decide) (sm_a0 _) rfl rfl (Nat.le_of_ble_eq_true rfl) sm_h47 (Nat.le_of_ble_eq_true rfl) (Nat.le_of_ble_eq_true rfl) (F' := (((if 0 < (g11 1021 0) then 12 else 30 * (20 - (g11 1023 0)) + 25))).toNat) (sv_Fe o19) rfl ((IH ((if 0 < (g11 1021 0) then 12 else 30 * (20 - (g11 1023 0)) + 25)) o18.1 o18.2).2.2.1 p1 (sv_sts S [1021, 1022, 1023] g11) ok12 o16 o17 rfl) (fun v S1 hq => ?_)
  obtain ⟨r24, rfl, hr24, ok21, md22, hpo23⟩ := hq
  obtain ⟨g20, rfl⟩ : ∃ g, S1 = sv_sts (sv_sts S [1021, 1022, 1023] g11) [1020, 1021, 1022, 1023, 5, 1011, 3, 4, 1007, 1009, 11, 12, 13, 14, 1024, 15, 16, 1031, 1032, 17, 18, 19, 20, 21, 22, 23, 24, 25, 1042, 1043, 1044, 1045, 1100001, 1100002, 1100005, 1100003, 1100004, 1100018, 1100019, 1100016, 1100035, 1100036] g := ⟨_, md22.eq⟩
  show sv_T sm_XS sm_cs sm_L sm_sh (30 * (20 - (S 1023 0)) + 14).toNat (q_opened p1 S) 46 13 [(0, .ref 0), (1, sv_I p1)] [sv_I r24] (sv_sts (sv_sts S [1021, 1022, 1023] g11) [1020, 1021, 1022, 1023, 5, 1011, 3, 4, 1007, 1009, 11, 12, 13, 14, 1024, 15, 16, 1031, 1032, 17, 18, 19, 20, 21, 22, 23, 24, 25, 1042, 1043, 1044, 1045, 1100001, 1100002, 1100005, 1100003, 1100004, 1100018, 1100019, 1100016, 1100035, 1100036] g20)
  have md25 : sv_mod [1020, 1021, 1022, 1023, 5, 1011, 3, 4, 1007, 1009, 11, 12, 13, 14, 1024, 15, 16, 1031, 1032, 17, 18, 19, 20, 21, 22, 23, 24, 25, 1042, 1043, 1044, 1045, 1100001, 1100002, 1100005, 1100003, 1100004, 1100018, 1100019, 1100016, 1100035, 1100036] S (sv_sts (sv_sts S [1021, 1022, 1023] g11) [1020, 1021, 1022, 1023, 5, 1011, 3, 4, 1007, 1009, 11, 12, 13, 14, 1024, 15, 16, 1031, 1032, 17, 18, 19, 20, 21, 22, 23, 24, 25, 1042, 1043, 1044, 1045, 1100001, 1100002, 1100005, 1100003, 1100004, 1100018, 1100019, 1100016, 1100035, 1100036] g20) := sv_mod.sts md15 (by decide)
  have h := h r24 hr24 g20 hpo23
  refine sv_istore_n hM dX12_opened_13 (by decide) rfl ?_
  show sv_T sm_XS sm_cs sm_L sm_sh (30 * (20 - (S 1023 0)) + 14).toNat (q_opened p1 S) 46 14 [(0, .ref 0), (1, sv_I p1), (2, sv_I r24)] [] (sv_sts (sv_sts S [1021, 1022, 1023] g11) [1020, 1021, 1022, 1023, 5, 1011, 3, 4, 1007, 1009, 11, 12, 13, 14, 1024, 15, 16, 1031, 1032, 17, 18, 19, 20, 21, 22, 23, 24, 25, 1042, 1043, 1044, 1045, 1100001, 1100002, 1100005, 1100003, 1100004, 1100018, 1100019, 1100016, 1100035, 1100036] g20)
  refine sv_aload_n hM dX12_opened_14 rfl rfl ?_
  obtain ⟨o26, h⟩ := h
  refine sv_callV hM dX12_opened_15 sm_iv_454 (by decide) (sm_a0 _) rfl rfl (Nat.le_of_ble_eq_true rfl) sm_h29 (Nat.le_of_ble_eq_true rfl) (Nat.le_of_ble_eq_true rfl) (F' := 0) (sv_Fn (n := 0) o26) rfl (t_close  (sv_sts (sv_sts S [1021, 1022, 1023] g11) [1020, 1021, 1022, 1023, 5, 1011, 3, 4, 1007, 1009, 11, 12, 13, 14, 1024, 15, 16, 1031, 1032, 17, 18, 19, 20, 21, 22, 23, 24, 25, 1042, 1043, 1044, 1045, 1100001, 1100002, 1100005, 1100003, 1100004, 1100018, 1100019, 1100016, 1100035, 1100036] g20) ok21) (fun v S1 hq => ?_)
  obtain ⟨rfl, ok28, md29, hpo30⟩ := hq
  obtain ⟨g27, rfl⟩ : ∃ g, S1 = sv_sts (sv_sts (sv_sts S [1021, 1022, 1023] g11) [1020, 1021, 1022, 1023, 5, 1011, 3, 4, 1007, 1009, 11, 12, 13, 14, 1024, 15, 16, 1031, 1032, 17, 18, 19, 20, 21, 22, 23, 24, 25, 1042, 1043, 1044, 1045, 1100001, 1100002, 1100005, 1100003, 1100004, 1100018, 1100019, 1100016, 1100035, 1100036] g20) [1023] g := ⟨_, md29.eq⟩
  show sv_T sm_XS sm_cs sm_L sm_sh (30 * (20 - (S 1023 0)) + 14).toNat (q_opened p1 S) 46 18 [(0, .ref 0), (1, sv_I p1), (2, sv_I r24)] [] (sv_sts (sv_sts (sv_sts S [1021, 1022, 1023] g11) [1020, 1021, 1022, 1023, 5, 1011, 3, 4, 1007, 1009, 11, 12, 13, 14, 1024, 15, 16, 1031, 1032, 17, 18, 19, 20, 21, 22, 23, 24, 25, 1042, 1043, 1044, 1045, 1100001, 1100002, 1100005, 1100003, 1100004, 1100018, 1100019, 1100016, 1100035, 1100036] g20) [1023] g27)
  have md31 : sv_mod [1020, 1021, 1022, 1023, 5, 1011, 3, 4, 1007, 1009, 11, 12, 13, 14, 1024, 15, 16, 1031, 1032, 17, 18, 19, 20, 21, 22, 23, 24, 25, 1042, 1043, 1044, 1045, 1100001, 1100002, 1100005, 1100003, 1100004, 1100018, 1100019, 1100016, 1100035, 1100036] S (sv_sts (sv_sts (sv_sts S [1021, 1022, 1023] g11) [1020, 1021, 1022, 1023, 5, 1011, 3, 4, 1007, 1009, 11, 12, 13, 14, 1024, 15, 16, 1031, 1032, 17, 18, 19, 20, 21, 22, 23, 24, 25, 1042, 1043, 1044, 1045, 1100001, 1100002, 1100005, 1100003, 1100004, 1100018, 1100019, 1100016, 1100035, 1100036] g20) [1023] g27) := sv_mod.sts md25 (by decide)
  have h := h g27 hpo30
  refine sv_iload_n hM dX12_opened_18 rfl rfl ?_
  exact sv_iret hM dX12_opened_19 rfl rfl ⟨r24, rfl, hr24, ok28, md31, h⟩
theorem la_assigned_0 {x0 : Int} (h0 : 0 ≤ x0) (h1 : x0 ≤ 1) : 0 ≤ x0 ∧ x0 ≤ 1 := by omega
theorem la_assigned_1 {x0 : Int} (h0 : 0 < x0) : ¬ x0 = 0 := by omega
theorem la_assigned_2 {x0 : Int} (h0 : x0 = 11) : 0 ≤ x0 := by omega
theorem la_assigned_3 {x0 : Int} (h0 : 0 ≤ x0) (h1 : ¬ 0 < x0) : x0 = 0 := by omega
theorem la_assigned_4 {x0 x1 : Int} (h0 : x0 = 30 * (20 - x1) + 24) (h1 : x1 ≤ 20) : 0 ≤ x0 := by omega
theorem la_assigned_5 {x0 x1 x2 : Int} (h0 : x0 = x1) (h1 : x0 = 12) (h2 : x2 = 11) : x2 < x1 := by omega
theorem la_assigned_6 {x0 x1 x2 x3 : Int} (h0 : x0 = x1) (h1 : x0 = 30 * (20 - x2) + 25) (h2 : x3 = 30 * (20 - x2) + 24) : x3 < x1 := by omega
theorem la_assigned_7 {x0 x1 : Int} (h0 : x0 = 12) (h1 : x1 = 11) : x1 + 1 ≤ x0 := by omega
theorem la_assigned_8 {x0 x1 x2 : Int} (h0 : x0 = 30 * (20 - x1) + 25) (h1 : x2 = 30 * (20 - x1) + 24) : x2 + 1 ≤ x0 := by omega
theorem la_assigned_9 {x0 : Int} (h0 : x0 ≤ 0) : ¬ 0 < x0 := by omega
theorem la_assigned_10 {x0 : Int} (h0 : 0 ≤ x0) (h1 : x0 ≤ 0) : x0 = 0 := by omega
theorem la_assigned_11 {x0 x1 x2 : Int} (h0 : 0 ≤ x0) (h1 : x1 ≤ 4001) (h2 : x2 < x1) (h3 : x0 < x2) : 0 ≤ x2 ∧ x2 ≤ 4000 := by omega
theorem la_assigned_12 {x0 x1 : Int} (h0 : x0 = 30 * (20 - x1) + 25) (h1 : x1 ≤ 20) : 0 + 1 ≤ x0 := by omega
theorem la_assigned_13 {x0 : Int} (h0 : (-1) ≤ x0) (h1 : ¬ x0 = (-1)) : (-1) < x0 := by omega
theorem la_assigned_14 {x0 : Int} (h0 : x0 < 12000) (h1 : 0 ≤ x0) : (-1) ≤ x0 ∧ x0 < 12000 := by omega
theorem la_assigned_15 {x0 : Int} (h0 : x0 = 1) : 0 ≤ x0 := by omega
theorem la_assigned_16 {x0 : Int} (h0 : 0 ≤ x0) (h1 : ¬ x0 = 0) : 0 < x0 := by omega
theorem la_assigned_17 {x0 x1 x2 : Int} (h0 : 0 ≤ x0) (h1 : x1 ≤ 4001) (h2 : x2 < x1) (h3 : x0 < x2) : sv_R (x2 + 1) := by omega
theorem la_assigned_18 {x0 : Int} (h0 : x0 ≤ 10) : x0 ≤ 99 := by omega
theorem la_assigned_19 {x0 : Int} (h0 : x0 ≤ 99) (h1 : ¬ x0 = 99) : x0 < 99 := by omega
theorem la_assigned_20 {x0 x1 : Int} (h0 : 0 ≤ x0) (h1 : x0 < x1) : 0 ≤ x1 + 1 := by omega
theorem la_assigned_21 {x0 x1 : Int} (h0 : 0 ≤ x0) (h1 : x0 < x1) : 0 ≤ x1 := by omega
theorem la_assigned_22 {x0 : Int} (h0 : x0 = 5) : 1 ≤ x0 := by omega
theorem la_assigned_23 {x0 : Int} (h0 : x0 = 5) : x0 ≤ 5 := by omega
theorem la_assigned_24 {x0 x1 : Int} (h0 : 1 ≤ x0) (h1 : x0 ≤ x1) : 1 ≤ x1 := by omega
theorem la_assigned_25 {x0 x1 x2 x3 : Int} (h0 : x0 < x1) (h1 : x1 = x2) (h2 : x3 = x0) : x3 < x2 := by omega
theorem la_assigned_26 {x0 x1 x2 : Int} (h0 : x0 = 0) (h1 : x1 = x2) (h2 : x2 = x0) : x1 = 0 := by omega
theorem la_assigned_27 {x0 x1 : Int} (h0 : (-1) ≤ x0) (h1 : x1 = x0) : (-1) ≤ x1 := by omega
theorem la_assigned_28 {x0 x1 x2 x3 : Int} (h0 : x0 < x1) (h1 : x2 = x0) (h2 : x1 ≤ x3) : x2 < x3 := by omega
theorem la_assigned_29 {x0 x1 : Int} (h0 : 0 ≤ x0) (h1 : x1 = x0) : 0 ≤ x1 := by omega
theorem la_assigned_30 {x0 x1 x2 x3 x4 x5 : Int} (h0 : x0 < x1) (h1 : x1 = x2) (h2 : x3 = x0) (h3 : x2 ≤ x4) (h4 : x5 = x4) : x3 < x5 := by omega
theorem la_assigned_31 {x0 x1 : Int} (h0 : x0 ≤ 1 + x1) : x0 ≤ 1 + (x1 + 1) := by omega
theorem la_assigned_32 {x0 x1 x2 : Int} (h0 : x0 = x1) (h1 : x2 ≤ 20) (h2 : x1 ≤ 3 * x2 + 5) : x0 ≤ 100 := by omega
theorem la_assigned_33 {x0 x1 x2 : Int} (h0 : x0 = x1) (h1 : x2 ≤ 20) (h2 : x1 ≤ x2) : x0 ≤ 30 := by omega
theorem la_assigned_34 {x0 x1 x2 x3 x4 x5 x6 x7 x8 x9 x10 x11 x12 : Int} (h0 : x0 = x1) (h1 : x2 = x3) (h2 : x4 = x5) (h3 : x6 = x7) (h4 : x8 + 1 ≤ x9 + 2 * (x10 - x11)) (h5 : 0 ≤ x7) (h6 : x7 ≤ 20) (h7 : x1 ≤ 3 * x7 + 5) (h8 : x9 ≤ 2 * x11) (h9 : x3 ≤ x7) (h10 : x5 ≤ x7) : x12 = 0 → 0 ≤ x6 ∧ x6 ≤ 20 ∧ x0 ≤ 3 * x6 + 5 ∧ x8 ≤ 2 * (x10 + 1) ∧ x2 ≤ x6 ∧ x4 ≤ x6 := by omega
theorem la_assigned_35 {x0 x1 x2 x3 : Int} (h0 : x0 = x1) (h1 : x2 = x3) (h2 : x0 = 30 * (20 - x3) + 25) (h3 : x3 ≤ 20) : 0 ≤ 30 * (20 - x2) + 14 ∧ 30 * (20 - x2) + 14 < x1 := by omega
theorem la_assigned_36 {x0 x1 x2 : Int} (h0 : x0 = x1) (h1 : x2 = 30 * (20 - x1) + 25) (h2 : x1 ≤ 20) : 0 ≤ 30 * (20 - x0) + 14 ∧ 30 * (20 - x0) + 14 + 1 ≤ x2 := by omega
theorem la_assigned_37 {x0 x1 x2 : Int} (h0 : 0 ≤ x0) (h1 : x0 < x1) (h2 : x1 ≤ x2) : 0 ≤ x2 := by omega
theorem la_assigned_38 {x0 x1 x2 x3 x4 x5 x6 x7 x8 x9 x10 : Int} (h0 : x0 ≤ 4001) (h1 : x1 = x2) (h2 : x3 + 1 ≤ x4 + 2 * (x5 - x6)) (h3 : 0 ≤ x2) (h4 : x4 ≤ 2 * x6) (h5 : x7 < x0) (h6 : 0 ≤ x8) (h7 : x8 = 0 → x9 = x1 ∧ x10 + 1 ≤ x3 + 2 * (x7 - (x5 + 1))) (h8 : 0 < x8 → x10 ≤ x3 + 2 * (x7 - (x5 + 1)) + 2 * (30 * (20 - x1) + 14)) : x10 < 12000 := by omega
theorem la_assigned_39 {x0 x1 x2 : Int} (h0 : (-1) ≤ x0) (h1 : x1 = x0) (h2 : x2 = x1) : (-1) ≤ x2 := by omega
theorem la_assigned_40 {x0 x1 x2 x3 x4 x5 : Int} (h0 : x0 < x1) (h1 : x2 = x0) (h2 : x1 ≤ x3) (h3 : x4 = x2) (h4 : x3 ≤ x5) : x4 < x5 := by omega
theorem la_assigned_41 {x0 : Int} (h0 : 0 ≤ x0) (h1 : x0 ≤ 20) : sv_R (17 * (20 - x0) + 17) := by omega
theorem la_assigned_42 {x0 : Int} (h0 : 0 ≤ x0) (h1 : x0 ≤ 20) : sv_R (20 - x0) := by omega
theorem la_assigned_43 {x0 x1 x2 : Int} (h0 : x0 < x1) (h1 : x1 + 1 ≤ x2) : x0 ≤ x2 := by omega
theorem la_assigned_44 {x0 x1 : Int} (h0 : ¬ 0 < x0) : 0 < x0 → 0 < x1 := by omega
theorem la_assigned_45 {x0 x1 x2 : Int} (h0 : x0 ≤ x1) (h1 : x1 ≤ x2) : x0 ≤ x2 := by omega
theorem la_assigned_46 {x0 x1 x2 : Int} (h0 : x0 = 1 → x1 = 1) (h1 : x1 = 1 → x2 = 1) : x0 = 1 → x2 = 1 := by omega
theorem la_assigned_47 {x0 : Int} (h0 : x0 = 0) : ¬ 0 < x0 := by omega
theorem la_assigned_48 {x0 x1 x2 x3 : Int} : (15 : Int) = 20 → x0 = (-1) ∨ 0 ≤ x0 ∧ x0 < x1 ∧ x2 = x3 := by omega
theorem la_assigned_49 {x0 x1 x2 x3 x4 x5 : Int} : (15 : Int) = 24 → (x0 = (-1) ∨ 0 ≤ x0 ∧ x0 < x1 ∧ x2 = x3) ∧ (x4 = (-1) ∨ 0 ≤ x4 ∧ x4 < x1 ∧ x5 = x3) := by omega
theorem la_assigned_50 {x0 x1 x2 x3 : Int} : (15 : Int) = 25 ∨ (15 : Int) = 26 → x0 = (-1) ∨ 0 ≤ x0 ∧ x0 < x1 ∧ x2 = x3 := by omega
theorem la_assigned_51 {x0 x1 x2 : Int} (h0 : x0 = x1) (h1 : 0 ≤ x2) (h2 : x2 < x1) : 0 ≤ x0 := by omega
theorem la_assigned_52 {x0 x1 x2 x3 : Int} : (15 : Int) = 27 → x0 = (-1) ∨ 0 ≤ x0 ∧ x0 < x1 ∧ x2 = x3 := by omega
theorem la_assigned_53 {x0 x1 x2 : Int} (h0 : x0 = x1) (h1 : x2 = x1 + 1) : x0 < x2 := by omega
theorem la_assigned_54 {x0 x1 x2 x3 : Int} : (15 : Int) = 28 → x0 = (-1) ∨ 0 ≤ x0 ∧ x0 < x1 ∧ x2 = x3 := by omega
theorem la_assigned_55 {x0 x1 : Int} : (15 : Int) = 33 → x0 = (-1) ∧ x1 = (-1) := by omega
theorem la_assigned_56 {x0 : Int} : (15 : Int) = 34 ∨ (15 : Int) = 35 → x0 = (-1) := by omega
theorem la_assigned_57 {x0 x1 : Int} (h0 : (-1) < x0) (h1 : x0 ≤ 10) (h2 : x1 = x0) : (-1) ≤ x1 ∧ x1 ≤ 10 := by omega
theorem la_assigned_58 {x0 x1 x2 : Int} (h0 : x0 ≤ x1) (h1 : x2 = x1 + 1) : x0 ≤ x2 := by omega
theorem la_assigned_59 {x0 x1 x2 x3 : Int} (h0 : x0 < x1) (h1 : x1 ≤ x2) (h2 : x3 = x2 + 1) : x0 < x3 := by omega
theorem la_assigned_60 {x0 x1 x2 x3 x4 : Int} (h0 : x0 < x1) (h1 : x1 ≤ x2) (h2 : x3 = x2 + 1) (h3 : x4 = x0) : x4 < x3 := by omega
theorem la_assigned_61 {x0 x1 : Int} (h0 : x0 = x1) : ¬ x0 < x1 := by omega
theorem la_assigned_62 {x0 x1 x2 : Int} (h0 : x0 = x1) (h1 : 0 ≤ x2) (h2 : x2 < x1) : 0 ≤ 5 * x0 + 1 := by omega
theorem la_assigned_63 {x0 x1 x2 : Int} (h0 : x0 < x1) (h1 : x1 ≤ x2) : x0 < x2 := by omega
theorem la_assigned_64 {x0 x1 x2 x3 : Int} (h0 : x0 < x1) (h1 : x1 ≤ x2) (h2 : x3 = x0) : x3 < x2 := by omega
theorem la_assigned_65 {x0 x1 x2 : Int} (h0 : x0 < x1) (h1 : x2 = x0) : x2 < x1 := by omega
theorem la_assigned_66 {x0 x1 : Int} (h0 : x0 = x1) : x1 = x0 := by omega
theorem la_assigned_67 {x0 x1 : Int} (h0 : x0 = x1) : 5 * x1 = 5 * x0 := by omega
theorem la_assigned_68 {x0 x1 : Int} (h0 : x0 = x1) : 5 * x1 + 1 = 5 * x0 + 1 := by omega
theorem la_assigned_69 {x0 x1 : Int} (h0 : x0 = x1) : 5 * x1 + 2 = 5 * x0 + 2 := by omega
theorem la_assigned_70 {x0 x1 : Int} (h0 : x0 = x1) : 5 * x1 + 3 = 5 * x0 + 3 := by omega
theorem la_assigned_71 {x0 x1 : Int} (h0 : x0 = x1) : 5 * x1 + 4 = 5 * x0 + 4 := by omega
theorem la_assigned_72 {x0 x1 : Int} (h0 : x0 = 1) (h1 : x1 = x0) : x1 = 1 := by omega
theorem la_assigned_73 {x0 x1 x2 : Int} (h0 : x0 ≤ 17 * (20 - x1) + 2) (h1 : x2 = x0) : x2 ≤ 17 * (20 - x1) + 17 - 3 := by omega
theorem la_assigned_74 {x0 x1 x2 : Int} (h0 : x0 ≤ 20 - x1) (h1 : x2 = x0) : x2 ≤ 20 - x1 := by omega
theorem la_assigned_75 {x0 x1 x2 x3 x4 : Int} (h0 : x0 < x1) (h1 : x1 ≤ x2) (h2 : x3 = x2) (h3 : x4 = x0) : x4 < x3 := by omega
theorem la_assigned_76 {x0 x1 x2 x3 x4 x5 : Int} (h0 : x0 = 2 ∨ x0 = 7) (h1 : x1 = x2) (h2 : x3 = x4) (h3 : x2 = x0) (h4 : x4 = x5) (h5 : x1 = x3) (h6 : x0 = x5) : x3 = 2 ∨ x3 = 7 := by omega
theorem la_assigned_77 {x0 x1 : Int} (h0 : x0 = x1) : 17 * (20 - x0) ≤ 17 * (20 - x1) + 17 - 3 := by omega
theorem la_assigned_78 {x0 x1 : Int} (h0 : x0 = x1) : 19 - x0 ≤ 20 - x1 - 1 := by omega
theorem la_assigned_79 {x0 x1 : Int} (h0 : x0 = x1 + 1) : x1 ≤ x0 := by omega
theorem la_assigned_80 {x0 : Int} (h0 : x0 ≤ 20) : 0 ≤ 17 * (20 - x0) + 17 := by omega
theorem la_assigned_81 {x0 : Int} (h0 : x0 ≤ 20) : 0 ≤ 20 - x0 := by omega
theorem la_assigned_82 {x0 x1 x2 x3 : Int} (h0 : x0 ≤ x1) (h1 : x1 ≤ x2) (h2 : x3 = x2) : x0 ≤ x3 := by omega
theorem la_assigned_83 {x0 x1 : Int} (h0 : x0 ≤ x1) : 8 * x0 ≤ 8 * x1 := by omega
theorem la_assigned_84 {x0 x1 x2 : Int} (h0 : x0 = x1) (h1 : x2 = x0) : x2 = x1 := by omega
theorem la_assigned_85 {x0 x1 : Int} (h0 : x0 = x1) : x1 ≤ x0 := by omega
theorem la_assigned_86 {x0 x1 x2 x3 : Int} (h0 : x0 ≤ x1) (h1 : x1 ≤ x2) (h2 : x3 = x2 + 1) : x0 ≤ x3 := by omega
theorem la_assigned_87 {x0 x1 x2 x3 x4 x5 x6 x7 x8 x9 x10 : Int} (h0 : x0 = x1) (h1 : x2 + 1 ≤ x3 + 2 * (x4 - x5)) (h2 : 0 ≤ x6) (h3 : x6 = 0 → x7 = x0 ∧ x8 + 1 ≤ x2 + 2 * (x9 - (x4 + 1))) (h4 : x10 = x8 + 1) : x6 = 0 → x7 = x1 ∧ x10 + 1 ≤ x3 + 2 * (x9 - x5) := by omega
theorem la_assigned_88 {x0 x1 x2 x3 x4 x5 x6 x7 x8 x9 x10 x11 : Int} (h0 : x0 = x1) (h1 : x2 + 1 ≤ x3 + 2 * (x4 - x5)) (h2 : x6 = 30 * (20 - x1) + 25) (h3 : x1 ≤ 20) (h4 : x7 = 0 → x8 = x0 ∧ x9 + 1 ≤ x2 + 2 * (x10 - (x4 + 1))) (h5 : 0 < x7 → x9 ≤ x2 + 2 * (x10 - (x4 + 1)) + 2 * (30 * (20 - x0) + 14)) (h6 : x11 = x9 + 1) : 0 < x7 → x11 ≤ x3 + 2 * (x10 - x5) + 2 * x6 := by omega
theorem la_assigned_89 {x0 x1 x2 x3 : Int} (h0 : 0 ≤ x0) (h1 : x0 < x1) (h2 : x1 ≤ x2) (h3 : x3 = x2) : (-1) ≤ x3 := by omega
theorem la_assigned_90 {x0 x1 x2 x3 x4 x5 x6 x7 x8 x9 x10 x11 : Int} (h0 : x0 ≤ 4001) (h1 : x1 = x2) (h2 : x3 + 1 ≤ x4 + 2 * (x5 - x6)) (h3 : 0 ≤ x2) (h4 : x4 ≤ 2 * x6) (h5 : x7 < x0) (h6 : 0 ≤ x8) (h7 : x8 = 0 → x9 = x1 ∧ x10 + 1 ≤ x3 + 2 * (x7 - (x5 + 1))) (h8 : 0 < x8 → x10 ≤ x3 + 2 * (x7 - (x5 + 1)) + 2 * (30 * (20 - x1) + 14)) (h9 : x11 = x10) : x11 < 12000 := by omega
theorem la_assigned_91 {x0 x1 x2 : Int} (h0 : x0 < x1) (h1 : x1 + 1 < x2) : x0 < x2 := by omega
theorem la_assigned_92 : (1 : Int) = 1 := by omega
theorem la_assigned_93 {x0 : Int} : 17 * (20 - x0) + 17 ≤ 17 * (20 - x0) + 17 := by omega
theorem la_assigned_94 {x0 : Int} : 20 - x0 ≤ 20 - x0 := by omega
theorem la_assigned_95 {x0 : Int} (h0 : x0 = 15) : ¬ x0 = 2 := by omega
theorem la_assigned_96 {x0 : Int} : x0 = x0 := by omega
theorem la_assigned_97 {x0 : Int} (h0 : x0 = 15) (h1 : x0 = 7) : False := by omega
theorem la_assigned_98 {x0 : Int} (h0 : ¬ 0 < x0) (h1 : 0 < x0) : False := by omega
theorem la_assigned_99 {x0 : Int} (h0 : ¬ ¬ x0 = 99) : ¬ x0 ≤ 10 := by omega
theorem la_assigned_100 {x0 x1 x2 : Int} : (15 : Int) = 20 → ((-1) : Int) = (-1) ∨ (0 : Int) ≤ (-1) ∧ (-1) < x0 ∧ x1 = x2 := by omega
theorem la_assigned_101 {x0 x1 x2 : Int} : (15 : Int) = 27 → ((-1) : Int) = (-1) ∨ (0 : Int) ≤ (-1) ∧ (-1) < x0 ∧ x1 = x2 := by omega
theorem la_assigned_102 {x0 : Int} : (15 : Int) = 33 → ((-1) : Int) = (-1) ∧ x0 = (-1) := by omega
theorem la_assigned_103 {x0 : Int} (h0 : x0 = (-1)) : (-1) ≤ x0 ∧ x0 ≤ 10 := by omega
theorem la_assigned_104 {x0 x1 x2 x3 : Int} (h0 : x0 = 1) (h1 : x1 = x2) (h2 : x3 = x0) (h3 : x0 = x2) (h4 : x3 = x1) : x1 = 1 := by omega
theorem la_assigned_105 {x0 x1 x2 x3 : Int} (h0 : x0 ≤ 17 * (20 - x1) + 2) (h1 : x2 = x3) (h2 : x0 = x3) : x2 ≤ 17 * (20 - x1) + 17 - 3 := by omega
theorem la_assigned_106 {x0 x1 x2 x3 : Int} (h0 : x0 ≤ 20 - x1) (h1 : x2 = x0) (h2 : x2 = x3) : x3 ≤ 20 - x1 := by omega
theorem la_assigned_107 {x0 x1 x2 x3 x4 x5 : Int} (h0 : x0 = 2 ∨ x0 = 7) (h1 : x1 = x2) (h2 : x3 = x4) (h3 : x2 = x5) (h4 : x4 = x0) (h5 : x0 = x5) (h6 : x3 = x1) : x1 = 2 ∨ x1 = 7 := by omega
theorem la_assigned_108 {x0 : Int} (h0 : ¬ ¬ x0 = 0) : ¬ x0 = 1 := by omega
theorem la_assigned_109 {x0 x1 x2 x3 : Int} (h0 : 0 ≤ x0) (h1 : x1 ≤ 4001) (h2 : x2 < x1) (h3 : 0 ≤ x3) (h4 : x0 < x2) : 0 ≤ x2 ∧ x2 ≤ 4000 ∧ 0 ≤ x3 ∧ (1 : Int) ≤ 3 := by omega
theorem la_assigned_110 {x0 : Int} (h0 : 0 < x0) : 0 ≤ x0 := by omega
theorem la_assigned_111 {x0 x1 x2 x3 x4 x5 x6 : Int} (h0 : x0 = x1) (h1 : 0 < x2) : x2 = 0 → x0 = x1 ∧ x3 + 1 ≤ x4 + 2 * (x5 - x6) := by omega
theorem la_assigned_112 {x0 x1 x2 x3 x4 x5 x6 : Int} (h0 : x0 + 1 ≤ x1 + 2 * (x2 - x3)) (h1 : x4 = 30 * (20 - x5) + 25) (h2 : x5 ≤ 20) : 0 < x6 → x0 ≤ x1 + 2 * (x2 - x3) + 2 * x4 := by omega
theorem la_assigned_113 : ((-1) : Int) ≤ (-1) := by omega
theorem la_assigned_114 : ((-1) : Int) < 12000 := by omega
theorem la_assigned_115 {x0 : Int} (h0 : 0 < x0) (h1 : x0 = 0) : False := by omega
theorem la_assigned_116 {x0 : Int} (h0 : ¬ ¬ x0 = (-1)) : ¬ x0 = 99 := by omega
theorem la_assigned_117 {x0 x1 x2 x3 x4 x5 : Int} (h0 : x0 ≤ 0) : 0 < x0 → x1 ≤ x2 + 2 * (x3 - x4) + 2 * x5 := by omega
theorem la_assigned_118 {x0 : Int} (h0 : ¬ x0 ≤ 0) : ¬ x0 = 0 := by omega
theorem la_assigned_119 {x0 : Int} (h0 : ¬ x0 ≤ 0) : 0 < x0 := by omega
theorem la_assigned_120 {x0 x1 x2 x3 x4 x5 x6 : Int} (h0 : x0 ≤ x1 + 2 * (x2 - x3) + 2 * x4) (h1 : x5 = 30 * (20 - x6) + 25) (h2 : x4 = 30 * (20 - x6) + 24) : x0 ≤ x1 + 2 * (x2 - x3) + 2 * x5 := by omega
theorem la_assigned_121 {x0 x1 x2 x3 x4 : Int} (h0 : x0 = 12) (h1 : x1 = x2) (h2 : x3 = x4) : x3 ≤ x4 + 2 * (x1 - x2) + 2 * x0 := by omega
theorem la_assigned_122 {x0 x1 : Int} (h0 : ¬ x0 ≤ 0) (h1 : x0 = 0) : 0 < x1 := by omega
theorem la_assigned_123 {x0 x1 : Int} (h0 : 0 ≤ x0) (h1 : ¬ x1 ≤ 0) (h2 : x1 = 0) : x0 = 0 := by omega
theorem la_assigned_124 {x0 : Int} (h0 : x0 = 0) (h1 : 0 < x0) : False := by omega
set_option maxHeartbeats 8000000 in
theorem f_assigned : ∀ (d : Int) (p1 : Int) (S : sv_S), sm_ok S → (0 ≤ p1 ∧ p1 ≤ 1) → (0 ≤ (S 1020 0) ∧ (S 1020 0) < (S 1012 0) ∧ sm_TK (S 6) (S 8) (S 9) (S 10) (S 1012 0) ∧ 0 ≤ (S 1021 0) ∧ 0 ≤ (S 1004 0) ∧ (S 1004 0) ≤ 4000 ∧ 1 ≤ (S 1007 0) ∧ (S 1007 0) ≤ 90 ∧ sm_LN (S 4) 400 (S 1007 0) ∧ ((S 1021 0) = 0 → sm_WF (S 11) (S 12) (S 13) (S 1100001) (S 1100002) (S 1100005) (S 1100003) (S 1100004) (S 1024 0) (S 1007 0) (S 1009 0) (sm_fn (S 1032 0) (S 21) (S 1043 0)) ∧ sm_FT (S 11) (S 12) (S 13) (S 1100019) (S 17) (S 18) (S 21) (S 19) (S 20) (S 22) (S 1100016) (S 1024 0) (S 1007 0) (S 1009 0) (S 1032 0) (S 1032 0) ∧ sm_WG (S 1100001) (S 1100019) (S 1043 0) ∧ (S 1100016 (S 1043 0)) = 0 ∧ sm_RG (S 11) (S 12) (S 13) (S 1100035) (S 1024 0)) ∧ -1 ≤ (S 1100036 0) ∧ (S 1100036 0) < (S 1024 0) ∧ sm_HD (S 23) (S 24) (S 1100018 0) (S 1007 0) ∧ sm_HD (S 25) (fun _ : Int => (S 1042 0)) 1 (S 1007 0) ∧ 0 ≤ (S 1043 0) ∧ (S 1043 0) < (S 1100018 0) ∧ (S 1100018 0) = (S 1032 0) ∧ (S 1032 0) ≤ 1 + (S 1020 0) ∧ 0 ≤ (S 1031 0) ∧ (S 1031 0) ≤ 100 ∧ 0 ≤ (S 1044 0) ∧ (S 1044 0) ≤ 30 ∧ 0 ≤ (S 1045 0) ∧ (S 1045 0) ≤ 30 ∧ 0 ≤ (S 1024 0) ∧ ((S 1021 0) = 0 → 0 ≤ (S 1023 0) ∧ (S 1023 0) ≤ 20 ∧ (S 1031 0) ≤ 3 * (S 1023 0) + 5 ∧ (S 1024 0) ≤ 2 * (S 1020 0) ∧ (S 1044 0) ≤ (S 1023 0) ∧ (S 1045 0) ≤ (S 1023 0))) → ((if 0 < (S 1021 0) then 12 else 30 * (20 - (S 1023 0)) + 25)) = d → (0 ≤ p1 ∧ p1 ≤ 1) ∧ (0 ≤ (S 1020 0) ∧ (S 1020 0) < (S 1012 0) ∧ sm_TK (S 6) (S 8) (S 9) (S 10) (S 1012 0) ∧ 0 ≤ (S 1021 0) ∧ 0 ≤ (S 1004 0) ∧ (S 1004 0) ≤ 4000 ∧ 1 ≤ (S 1007 0) ∧ (S 1007 0) ≤ 90 ∧ sm_LN (S 4) 400 (S 1007 0) ∧ ((S 1021 0) = 0 → sm_WF (S 11) (S 12) (S 13) (S 1100001) (S 1100002) (S 1100005) (S 1100003) (S 1100004) (S 1024 0) (S 1007 0) (S 1009 0) (sm_fn (S 1032 0) (S 21) (S 1043 0)) ∧ sm_FT (S 11) (S 12) (S 13) (S 1100019) (S 17) (S 18) (S 21) (S 19) (S 20) (S 22) (S 1100016) (S 1024 0) (S 1007 0) (S 1009 0) (S 1032 0) (S 1032 0) ∧ sm_WG (S 1100001) (S 1100019) (S 1043 0) ∧ (S 1100016 (S 1043 0)) = 0 ∧ sm_RG (S 11) (S 12) (S 13) (S 1100035) (S 1024 0)) ∧ -1 ≤ (S 1100036 0) ∧ (S 1100036 0) < (S 1024 0) ∧ sm_HD (S 23) (S 24) (S 1100018 0) (S 1007 0) ∧ sm_HD (S 25) (fun _ : Int => (S 1042 0)) 1 (S 1007 0) ∧ 0 ≤ (S 1043 0) ∧ (S 1043 0) < (S 1100018 0) ∧ (S 1100018 0) = (S 1032 0) ∧ (S 1032 0) ≤ 1 + (S 1020 0) ∧ 0 ≤ (S 1031 0) ∧ (S 1031 0) ≤ 100 ∧ 0 ≤ (S 1044 0) ∧ (S 1044 0) ≤ 30 ∧ 0 ≤ (S 1045 0) ∧ (S 1045 0) ≤ 30 ∧ 0 ≤ (S 1024 0) ∧ ((S 1021 0) = 0 → 0 ≤ (S 1023 0) ∧ (S 1023 0) ≤ 20 ∧ (S 1031 0) ≤ 3 * (S 1023 0) + 5 ∧ (S 1024 0) ≤ 2 * (S 1020 0) ∧ (S 1044 0) ≤ (S 1023 0) ∧ (S 1045 0) ≤ (S 1023 0))) ∧ (0 ≤ ((if 0 < (S 1021 0) then 11 else 30 * (20 - (S 1023 0)) + 24)) ∧ ((if 0 < (S 1021 0) then 11 else 30 * (20 - (S 1023 0)) + 24)) < d) ∧ (0 ≤ ((if 0 < (S 1021 0) then 11 else 30 * (20 - (S 1023 0)) + 24)) ∧ ((if 0 < (S 1021 0) then 11 else 30 * (20 - (S 1023 0)) + 24)) + 1 ≤ ((if 0 < (S 1021 0) then 12 else 30 * (20 - (S 1023 0)) + 25))) ∧ (∀ r9 : Int, sv_R r9 → ∀ g5 : sv_S, ((S 1020 0) ≤ (g5 1020 0) ∧ (g5 1020 0) < (S 1012 0) ∧ 0 ≤ (g5 1021 0) ∧ (0 < (S 1021 0) → 0 < (g5 1021 0)) ∧ (S 1007 0) ≤ (g5 1007 0) ∧ (g5 1007 0) ≤ 90 ∧ sm_LN (g5 4) 400 (g5 1007 0) ∧ ((S 1009 0) = 1 → (g5 1009 0) = 1) ∧ ((g5 1021 0) = 0 → sm_WF (g5 11) (g5 12) (g5 13) (g5 1100001) (g5 1100002) (g5 1100005) (g5 1100003) (g5 1100004) (g5 1024 0) (g5 1007 0) (g5 1009 0) (sm_fn (g5 1032 0) (g5 21) (g5 1043 0)) ∧ sm_PX (S 11) (S 12) (S 13) (S 1100001) (S 1100002) (S 1100005) (S 1100003) (S 1100004) (g5 11) (g5 12) (g5 13) (g5 1100001) (g5 1100002) (g5 1100005) (g5 1100003) (g5 1100004) (S 1024 0) ∧ sm_FT (g5 11) (g5 12) (g5 13) (g5 1100019) (g5 17) (g5 18) (g5 21) (g5 19) (g5 20) (g5 22) (g5 1100016) (g5 1024 0) (g5 1007 0) (g5 1009 0) (g5 1032 0) (g5 1032 0) ∧ sm_WG (g5 1100001) (g5 1100019) (g5 1043 0) ∧ sm_F1 (S 1100019) (g5 1100019) (S 1024 0) ∧ sm_F1 (S 1100035) (g5 1100035) (S 1024 0) ∧ sm_F1 (S 17) (g5 17) (S 1032 0) ∧ sm_F1 (S 18) (g5 18) (S 1032 0) ∧ sm_F1 (S 21) (g5 21) (S 1032 0) ∧ sm_F1 (S 20) (g5 20) (S 1032 0) ∧ sm_F1 (S 22) (g5 22) (S 1032 0) ∧ sm_F1 (S 1100016) (g5 1100016) (S 1032 0) ∧ sm_F1 (S 19) (g5 19) (8 * (S 1032 0)) ∧ sm_FN (g5 1100016) (S 1032 0) (g5 1032 0) ∧ sm_RG (g5 11) (g5 12) (g5 13) (g5 1100035) (g5 1024 0)) ∧ (g5 1100036 0) = (S 1100036 0) ∧ sm_KL (S 15) (S 16) (g5 15) (g5 16) (S 1031 0) ∧ sm_HD (g5 23) (g5 24) (g5 1100018 0) (g5 1007 0) ∧ sm_HD (g5 25) (fun _ : Int => (g5 1042 0)) 1 (g5 1007 0) ∧ (g5 1031 0) = (S 1031 0) ∧ (g5 1043 0) = (S 1043 0) ∧ (g5 1044 0) = (S 1044 0) ∧ (g5 1045 0) = (S 1045 0) ∧ (S 1032 0) ≤ (g5 1032 0) ∧ (g5 1032 0) ≤ 1 + (g5 1020 0) ∧ (g5 1100018 0) = (g5 1032 0) ∧ (S 1024 0) ≤ (g5 1024 0) ∧ ((g5 1021 0) = 0 → (g5 1023 0) = (S 1023 0) ∧ (g5 1024 0) + 1 ≤ (S 1024 0) + 2 * ((g5 1020 0) - (S 1020 0))) ∧ (0 < (g5 1021 0) → (g5 1024 0) ≤ (S 1024 0) + 2 * ((g5 1020 0) - (S 1020 0)) + 2 * ((if 0 < (S 1021 0) then 11 else 30 * (20 - (S 1023 0)) + 24))) ∧ -1 ≤ r9 ∧ r9 < 12000 ∧ ((g5 1021 0) = 0 → (S 1020 0) < (g5 1020 0) ∧ 1 ≤ (S 6 (S 1020 0)) ∧ sm_ex (g5 1100001) (g5 1100002) (g5 1100005) (g5 1024 0) 1 r9 (17 * (20 - (S 1023 0)) + 17) (20 - (S 1023 0)) ∧ ((g5 11 r9) = 2 ∨ (g5 11 r9) = 7 → (g5 1100002 r9) ≤ 17 * (20 - (S 1023 0)) + 2)) ∧ (0 < (S 1021 0) → (g5 1020 0) = (S 1020 0) ∧ (g5 1024 0) = (S 1024 0))) → (sv_R (g5 1021 0) → ((((g5 1021 0) ≤ (0 : Int)) → (0 ≤ (g5 1020 0) ∧ (g5 1020 0) ≤ 4000) ∧ (0 + 1 ≤ ((if 0 < (S 1021 0) then 12 else 30 * (20 - (S 1023 0)) + 25))) ∧ (∀ r18 : Int, sv_R r18 → (-1 ≤ r18 ∧ (r18 ≤ 10 ∨ r18 = 99) ∧ (¬ r18 = -1 → (S 6 (g5 1020 0)) = 5)) → (((¬ r18 = (-1 : Int)) → (-1 ≤ r9 ∧ r9 < 12000) ∧ (∀ r24 : Int, sv_R r24 → ((r24 = 0 ∨ r24 = 1) ∧ (r24 = 1 → 0 ≤ r9 ∧ (g5 14 r9) = 0 ∧ ((g5 11 r9) = 2 ∨ (g5 11 r9) = 7))) → (((¬ r24 = (0 : Int)) → (sv_R (g5 1020 0) → (sv_R ((g5 1020 0) + (1 : Int))) ∧ (((¬ r18 = (99 : Int)) → (0 ≤ ((g5 1020 0) + (1 : Int)) ∧ ((g5 1020 0) + (1 : Int)) < (S 1012 0) ∧ sm_TK (S 6) (S 8) (S 9) (S 10) (S 1012 0) ∧ 0 ≤ (g5 1021 0) ∧ 0 ≤ (S 1004 0) ∧ (S 1004 0) ≤ 4000 ∧ 1 ≤ (g5 1007 0) ∧ (g5 1007 0) ≤ 90 ∧ sm_LN (g5 4) 400 (g5 1007 0) ∧ ((g5 1021 0) = 0 → sm_WF (g5 11) (g5 12) (g5 13) (g5 1100001) (g5 1100002) (g5 1100005) (g5 1100003) (g5 1100004) (g5 1024 0) (g5 1007 0) (g5 1009 0) (sm_fn (g5 1032 0) (g5 21) (g5 1043 0)) ∧ sm_FT (g5 11) (g5 12) (g5 13) (g5 1100019) (g5 17) (g5 18) (g5 21) (g5 19) (g5 20) (g5 22) (g5 1100016) (g5 1024 0) (g5 1007 0) (g5 1009 0) (g5 1032 0) (g5 1032 0) ∧ sm_WG (g5 1100001) (g5 1100019) (g5 1043 0) ∧ (g5 1100016 (g5 1043 0)) = 0 ∧ sm_RG (g5 11) (g5 12) (g5 13) (g5 1100035) (g5 1024 0)) ∧ -1 ≤ (g5 1100036 0) ∧ (g5 1100036 0) < (g5 1024 0) ∧ sm_HD (g5 23) (g5 24) (g5 1100018 0) (g5 1007 0) ∧ sm_HD (g5 25) (fun _ : Int => (g5 1042 0)) 1 (g5 1007 0) ∧ 0 ≤ (g5 1043 0) ∧ (g5 1043 0) < (g5 1100018 0) ∧ (g5 1100018 0) = (g5 1032 0) ∧ (g5 1032 0) ≤ 1 + ((g5 1020 0) + (1 : Int)) ∧ 0 ≤ (g5 1031 0) ∧ (g5 1031 0) ≤ 100 ∧ 0 ≤ (g5 1044 0) ∧ (g5 1044 0) ≤ 30 ∧ 0 ≤ (g5 1045 0) ∧ (g5 1045 0) ≤ 30 ∧ 0 ≤ (g5 1024 0) ∧ ((g5 1021 0) = 0 → 0 ≤ (g5 1023 0) ∧ (g5 1023 0) ≤ 20 ∧ (g5 1031 0) ≤ 3 * (g5 1023 0) + 5 ∧ (g5 1024 0) ≤ 2 * ((g5 1020 0) + (1 : Int)) ∧ (g5 1044 0) ≤ (g5 1023 0) ∧ (g5 1045 0) ≤ (g5 1023 0)) ∧ (g5 1021 0) = 0) ∧ (0 ≤ (30 * (20 - (g5 1023 0)) + 14) ∧ (30 * (20 - (g5 1023 0)) + 14) < d) ∧ (0 ≤ (30 * (20 - (g5 1023 0)) + 14) ∧ (30 * (20 - (g5 1023 0)) + 14) + 1 ≤ ((if 0 < (S 1021 0) then 12 else 30 * (20 - (S 1023 0)) + 25))) ∧ (∀ r36 : Int, sv_R r36 → ∀ g32 : sv_S, (((g5 1020 0) + (1 : Int)) ≤ (g32 1020 0) ∧ (g32 1020 0) < (S 1012 0) ∧ 0 ≤ (g32 1021 0) ∧ (0 < (g5 1021 0) → 0 < (g32 1021 0)) ∧ (g5 1007 0) ≤ (g32 1007 0) ∧ (g32 1007 0) ≤ 90 ∧ sm_LN (g32 4) 400 (g32 1007 0) ∧ ((g5 1009 0) = 1 → (g32 1009 0) = 1) ∧ ((g32 1021 0) = 0 → sm_WF (g32 11) (g32 12) (g32 13) (g32 1100001) (g32 1100002) (g32 1100005) (g32 1100003) (g32 1100004) (g32 1024 0) (g32 1007 0) (g32 1009 0) (sm_fn (g32 1032 0) (g32 21) (g32 1043 0)) ∧ sm_PX (g5 11) (g5 12) (g5 13) (g5 1100001) (g5 1100002) (g5 1100005) (g5 1100003) (g5 1100004) (g32 11) (g32 12) (g32 13) (g32 1100001) (g32 1100002) (g32 1100005) (g32 1100003) (g32 1100004) (g5 1024 0) ∧ sm_FT (g32 11) (g32 12) (g32 13) (g32 1100019) (g32 17) (g32 18) (g32 21) (g32 19) (g32 20) (g32 22) (g32 1100016) (g32 1024 0) (g32 1007 0) (g32 1009 0) (g32 1032 0) (g32 1032 0) ∧ sm_WG (g32 1100001) (g32 1100019) (g32 1043 0) ∧ sm_F1 (g5 1100019) (g32 1100019) (g5 1024 0) ∧ sm_F1 (g5 1100035) (g32 1100035) (g5 1024 0) ∧ sm_F1 (g5 17) (g32 17) (g5 1032 0) ∧ sm_F1 (g5 18) (g32 18) (g5 1032 0) ∧ sm_F1 (g5 21) (g32 21) (g5 1032 0) ∧ sm_F1 (g5 20) (g32 20) (g5 1032 0) ∧ sm_F1 (g5 22) (g32 22) (g5 1032 0) ∧ sm_F1 (g5 1100016) (g32 1100016) (g5 1032 0) ∧ sm_F1 (g5 19) (g32 19) (8 * (g5 1032 0)) ∧ sm_FN (g32 1100016) (g5 1032 0) (g32 1032 0) ∧ sm_RG (g32 11) (g32 12) (g32 13) (g32 1100035) (g32 1024 0)) ∧ (g32 1100036 0) = (g5 1100036 0) ∧ sm_KL (g5 15) (g5 16) (g32 15) (g32 16) (g5 1031 0) ∧ sm_HD (g32 23) (g32 24) (g32 1100018 0) (g32 1007 0) ∧ sm_HD (g32 25) (fun _ : Int => (g32 1042 0)) 1 (g32 1007 0) ∧ (g32 1031 0) = (g5 1031 0) ∧ (g32 1043 0) = (g5 1043 0) ∧ (g32 1044 0) = (g5 1044 0) ∧ (g32 1045 0) = (g5 1045 0) ∧ (g5 1032 0) ≤ (g32 1032 0) ∧ (g32 1032 0) ≤ 1 + (g32 1020 0) ∧ (g32 1100018 0) = (g32 1032 0) ∧ (g5 1024 0) ≤ (g32 1024 0) ∧ ((g32 1021 0) = 0 → (g32 1023 0) = (g5 1023 0) ∧ (g32 1024 0) + 1 ≤ (g5 1024 0) + 2 * ((g32 1020 0) - ((g5 1020 0) + (1 : Int)))) ∧ (0 < (g32 1021 0) → (g32 1024 0) ≤ (g5 1024 0) + 2 * ((g32 1020 0) - ((g5 1020 0) + (1 : Int))) + 2 * (30 * (20 - (g5 1023 0)) + 14)) ∧ -1 ≤ r36 ∧ r36 < 12000 ∧ ((g32 1021 0) = 0 → sm_ex (g32 1100001) (g32 1100002) (g32 1100005) (g32 1024 0) 1 r36 (17 * (20 - (g5 1023 0))) (19 - (g5 1023 0)) ∧ ((g5 1020 0) + (1 : Int)) < (g32 1020 0))) → (0 ≤ (g32 1024 0) ∧ (g32 1024 0) < 12000 ∧ -1 ≤ (g32 1100036 0) ∧ (g32 1100036 0) < (g32 1024 0)) ∧ (∀ r43 : Int, sv_R r43 → ∀ g39 : sv_S, (r43 = (g32 1024 0) ∧ (g39 1024 0) = (g32 1024 0) + 1 ∧ (g39 11 r43) = (15 : Int) ∧ (g39 12 (5 * r43)) = r18 ∧ (g39 12 (5 * r43 + 1)) = r9 ∧ (g39 12 (5 * r43 + 2)) = r36 ∧ (g39 12 (5 * r43 + 3)) = -1 ∧ (g39 12 (5 * r43 + 4)) = -1 ∧ (g39 13 r43) = -1 ∧ (g39 14 r43) = 0 ∧ (∀ n : Int, n < (g32 1024 0) → (g39 14 n) = (g32 14 n)) ∧ (sm_WF (g32 11) (g32 12) (g32 13) (g32 1100001) (g32 1100002) (g32 1100005) (g32 1100003) (g32 1100004) (g32 1024 0) (g32 1007 0) (g32 1009 0) (sm_fn (g32 1032 0) (g32 21) (g32 1043 0)) → sm_WF (g39 11) (g39 12) (g39 13) (g32 1100001) (g32 1100002) (g32 1100005) (g32 1100003) (g32 1100004) (g39 1024 0) (g32 1007 0) (g32 1009 0) (sm_fn (g32 1032 0) (g32 21) (g32 1043 0)) ∧ (g32 1100001 r43) = 0) ∧ sm_PX (g32 11) (g32 12) (g32 13) (g32 1100001) (g32 1100002) (g32 1100005) (g32 1100003) (g32 1100004) (g39 11) (g39 12) (g39 13) (g32 1100001) (g32 1100002) (g32 1100005) (g32 1100003) (g32 1100004) (g32 1024 0) ∧ (g39 1100019 r43) = (g32 1043 0) ∧ sm_F1 (g32 1100019) (g39 1100019) (g32 1024 0) ∧ (sm_WG (g32 1100001) (g32 1100019) (g32 1043 0) → sm_WG (g32 1100001) (g39 1100019) (g32 1043 0)) ∧ (sm_FT (g32 11) (g32 12) (g32 13) (g32 1100019) (g32 17) (g32 18) (g32 21) (g32 19) (g32 20) (g32 22) (g32 1100016) (g32 1024 0) (g32 1007 0) (g32 1009 0) (g32 1032 0) (g32 1032 0) → sm_FT (g39 11) (g39 12) (g39 13) (g39 1100019) (g32 17) (g32 18) (g32 21) (g32 19) (g32 20) (g32 22) (g32 1100016) (g39 1024 0) (g32 1007 0) (g32 1009 0) (g32 1032 0) (g32 1032 0)) ∧ (g39 1100035 r43) = (g32 1100036 0) ∧ sm_F1 (g32 1100035) (g39 1100035) (g32 1024 0) ∧ (sm_RG (g32 11) (g32 12) (g32 13) (g32 1100035) (g32 1024 0) → ((15 : Int) = 20 → (r18 = -1 ∨ (0 ≤ r18 ∧ r18 < (g32 1024 0) ∧ (g32 1100035 r18) = (g32 1100036 0)))) → ((15 : Int) = 24 → (r9 = -1 ∨ (0 ≤ r9 ∧ r9 < (g32 1024 0) ∧ (g32 1100035 r9) = (g32 1100036 0))) ∧ (r36 = -1 ∨ (0 ≤ r36 ∧ r36 < (g32 1024 0) ∧ (g32 1100035 r36) = (g32 1100036 0)))) → ((15 : Int) = 25 ∨ (15 : Int) = 26 → (r9 = -1 ∨ (0 ≤ r9 ∧ r9 < (g32 1024 0) ∧ (g32 1100035 r9) = (g32 1100036 0)))) → ((15 : Int) = 27 → (r18 = -1 ∨ (0 ≤ r18 ∧ r18 < (g32 1024 0) ∧ (g32 1100035 r18) = (g32 1100036 0)))) → ((15 : Int) = 28 → (r36 = -1 ∨ (0 ≤ r36 ∧ r36 < (g32 1024 0) ∧ (g32 1100035 r36) = (g32 1100036 0)))) → ((15 : Int) = 33 → r18 = -1 ∧ r36 = -1) → ((15 : Int) = 34 ∨ (15 : Int) = 35 → r9 = -1) → sm_RG (g39 11) (g39 12) (g39 13) (g39 1100035) (g39 1024 0))) → (sv_R ((17 * (20 - (S 1023 0)) + 17))) ∧ (sv_R ((20 - (S 1023 0)))) ∧ (((g32 1021 0) = 0 → sm_WG (g32 1100001) (g39 1100019) (g32 1043 0) → (g39 1100019 r43) = (g32 1043 0) → sm_WG (fun i' : Int => if i' = r43 then (1 : Int) else (g32 1100001) i') (g39 1100019) (g32 1043 0)) → (((g32 1021 0) = 0 → sm_WF (g39 11) (g39 12) (g39 13) (g32 1100001) (g32 1100002) (g32 1100005) (g32 1100003) (g32 1100004) (g39 1024 0) (g32 1007 0) (g32 1009 0) (sm_fn (g32 1032 0) (g32 21) (g32 1043 0)) → (g32 1100001 r43) = 0 → 0 ≤ r43 → r43 < (g39 1024 0) → (g39 13 r43) = -1 → (g39 11 r43) = 15 → (-1 ≤ (g39 12 (5 * r43)) ∧ (g39 12 (5 * r43)) ≤ 10) → (sm_ex (g32 1100001) (g32 1100002) (g32 1100005) (g39 1024 0) 1 (g39 12 (5 * r43 + 1)) ((17 * (20 - (S 1023 0)) + 17) - 3) (20 - (S 1023 0))) → ((g39 12 (5 * r43 + 1)) < r43) → ((g39 11 (g39 12 (5 * r43 + 1))) = 2 ∨ (g39 11 (g39 12 (5 * r43 + 1))) = 7) → (sm_ex (g32 1100001) (g32 1100002) (g32 1100005) (g39 1024 0) 1 (g39 12 (5 * r43 + 2)) ((17 * (20 - (S 1023 0)) + 17) - 3) ((20 - (S 1023 0)) - 1)) → (0 ≤ (17 * (20 - (S 1023 0)) + 17)) → (0 ≤ (20 - (S 1023 0))) → sm_WF (g39 11) (g39 12) (g39 13) (fun i' : Int => if i' = r43 then (1 : Int) else (g32 1100001) i') (fun i' : Int => if i' = r43 then ((17 * (20 - (S 1023 0)) + 17)) else (g32 1100002) i') (fun i' : Int => if i' = r43 then ((20 - (S 1023 0))) else (g32 1100005) i') (fun i' : Int => if i' = r43 then (0 : Int) else (g32 1100003) i') (fun i' : Int => if i' = r43 then (0 : Int) else (g32 1100004) i') (g39 1024 0) (g32 1007 0) (g32 1009 0) (sm_fn (g32 1032 0) (g32 21) (g32 1043 0))) → ((S 1020 0) ≤ (g32 1020 0) ∧ (g32 1020 0) < (S 1012 0) ∧ 0 ≤ (g32 1021 0) ∧ (0 < (S 1021 0) → 0 < (g32 1021 0)) ∧ (S 1007 0) ≤ (g32 1007 0) ∧ (g32 1007 0) ≤ 90 ∧ sm_LN (g32 4) 400 (g32 1007 0) ∧ ((S 1009 0) = 1 → (g32 1009 0) = 1) ∧ ((g32 1021 0) = 0 → sm_WF (g39 11) (g39 12) (g39 13) (fun i' : Int => if i' = r43 then (1 : Int) else (g32 1100001) i') (fun i' : Int => if i' = r43 then ((17 * (20 - (S 1023 0)) + 17)) else (g32 1100002) i') (fun i' : Int => if i' = r43 then ((20 - (S 1023 0))) else (g32 1100005) i') (fun i' : Int => if i' = r43 then (0 : Int) else (g32 1100003) i') (fun i' : Int => if i' = r43 then (0 : Int) else (g32 1100004) i') (g39 1024 0) (g32 1007 0) (g32 1009 0) (sm_fn (g32 1032 0) (g32 21) (g32 1043 0)) ∧ sm_PX (S 11) (S 12) (S 13) (S 1100001) (S 1100002) (S 1100005) (S 1100003) (S 1100004) (g39 11) (g39 12) (g39 13) (fun i' : Int => if i' = r43 then (1 : Int) else (g32 1100001) i') (fun i' : Int => if i' = r43 then ((17 * (20 - (S 1023 0)) + 17)) else (g32 1100002) i') (fun i' : Int => if i' = r43 then ((20 - (S 1023 0))) else (g32 1100005) i') (fun i' : Int => if i' = r43 then (0 : Int) else (g32 1100003) i') (fun i' : Int => if i' = r43 then (0 : Int) else (g32 1100004) i') (S 1024 0) ∧ sm_FT (g39 11) (g39 12) (g39 13) (g39 1100019) (g32 17) (g32 18) (g32 21) (g32 19) (g32 20) (g32 22) (g32 1100016) (g39 1024 0) (g32 1007 0) (g32 1009 0) (g32 1032 0) (g32 1032 0) ∧ sm_WG (fun i' : Int => if i' = r43 then (1 : Int) else (g32 1100001) i') (g39 1100019) (g32 1043 0) ∧ sm_F1 (S 1100019) (g39 1100019) (S 1024 0) ∧ sm_F1 (S 1100035) (g39 1100035) (S 1024 0) ∧ sm_F1 (S 17) (g32 17) (S 1032 0) ∧ sm_F1 (S 18) (g32 18) (S 1032 0) ∧ sm_F1 (S 21) (g32 21) (S 1032 0) ∧ sm_F1 (S 20) (g32 20) (S 1032 0) ∧ sm_F1 (S 22) (g32 22) (S 1032 0) ∧ sm_F1 (S 1100016) (g32 1100016) (S 1032 0) ∧ sm_F1 (S 19) (g32 19) (8 * (S 1032 0)) ∧ sm_FN (g32 1100016) (S 1032 0) (g32 1032 0) ∧ sm_RG (g39 11) (g39 12) (g39 13) (g39 1100035) (g39 1024 0)) ∧ (g32 1100036 0) = (S 1100036 0) ∧ sm_KL (S 15) (S 16) (g32 15) (g32 16) (S 1031 0) ∧ sm_HD (g32 23) (g32 24) (g32 1100018 0) (g32 1007 0) ∧ sm_HD (g32 25) (fun _ : Int => (g32 1042 0)) 1 (g32 1007 0) ∧ (g32 1031 0) = (S 1031 0) ∧ (g32 1043 0) = (S 1043 0) ∧ (g32 1044 0) = (S 1044 0) ∧ (g32 1045 0) = (S 1045 0) ∧ (S 1032 0) ≤ (g32 1032 0) ∧ (g32 1032 0) ≤ 1 + (g32 1020 0) ∧ (g32 1100018 0) = (g32 1032 0) ∧ (S 1024 0) ≤ (g39 1024 0) ∧ ((g32 1021 0) = 0 → (g32 1023 0) = (S 1023 0) ∧ (g39 1024 0) + 1 ≤ (S 1024 0) + 2 * ((g32 1020 0) - (S 1020 0))) ∧ (0 < (g32 1021 0) → (g39 1024 0) ≤ (S 1024 0) + 2 * ((g32 1020 0) - (S 1020 0)) + 2 * ((if 0 < (S 1021 0) then 12 else 30 * (20 - (S 1023 0)) + 25))) ∧ -1 ≤ r43 ∧ r43 < 12000 ∧ ((g32 1021 0) = 0 → (S 1020 0) < (g32 1020 0) ∧ 1 ≤ (S 6 (S 1020 0)) ∧ sm_ex (fun i' : Int => if i' = r43 then (1 : Int) else (g32 1100001) i') (fun i' : Int => if i' = r43 then ((17 * (20 - (S 1023 0)) + 17)) else (g32 1100002) i') (fun i' : Int => if i' = r43 then ((20 - (S 1023 0))) else (g32 1100005) i') (g39 1024 0) 1 r43 (17 * (20 - (S 1023 0)) + 17) (20 - (S 1023 0)) ∧ ((g39 11 r43) = 2 ∨ (g39 11 r43) = 7 → (if r43 = r43 then ((17 * (20 - (S 1023 0)) + 17)) else (g32 1100002 r43)) ≤ 17 * (20 - (S 1023 0)) + 2)) ∧ (0 < (S 1021 0) → (g32 1020 0) = (S 1020 0) ∧ (g39 1024 0) = (S 1024 0)))))))) ∧ ((¬ (¬ r18 = (99 : Int))) → (0 ≤ ((g5 1020 0) + (1 : Int)) ∧ ((g5 1020 0) + (1 : Int)) < (S 1012 0) ∧ sm_TK (S 6) (S 8) (S 9) (S 10) (S 1012 0) ∧ 0 ≤ (g5 1021 0) ∧ 0 ≤ (S 1004 0) ∧ (S 1004 0) ≤ 4000 ∧ 1 ≤ (g5 1007 0) ∧ (g5 1007 0) ≤ 90 ∧ sm_LN (g5 4) 400 (g5 1007 0) ∧ ((g5 1021 0) = 0 → sm_WF (g5 11) (g5 12) (g5 13) (g5 1100001) (g5 1100002) (g5 1100005) (g5 1100003) (g5 1100004) (g5 1024 0) (g5 1007 0) (g5 1009 0) (sm_fn (g5 1032 0) (g5 21) (g5 1043 0)) ∧ sm_FT (g5 11) (g5 12) (g5 13) (g5 1100019) (g5 17) (g5 18) (g5 21) (g5 19) (g5 20) (g5 22) (g5 1100016) (g5 1024 0) (g5 1007 0) (g5 1009 0) (g5 1032 0) (g5 1032 0) ∧ sm_WG (g5 1100001) (g5 1100019) (g5 1043 0) ∧ (g5 1100016 (g5 1043 0)) = 0 ∧ sm_RG (g5 11) (g5 12) (g5 13) (g5 1100035) (g5 1024 0)) ∧ -1 ≤ (g5 1100036 0) ∧ (g5 1100036 0) < (g5 1024 0) ∧ sm_HD (g5 23) (g5 24) (g5 1100018 0) (g5 1007 0) ∧ sm_HD (g5 25) (fun _ : Int => (g5 1042 0)) 1 (g5 1007 0) ∧ 0 ≤ (g5 1043 0) ∧ (g5 1043 0) < (g5 1100018 0) ∧ (g5 1100018 0) = (g5 1032 0) ∧ (g5 1032 0) ≤ 1 + ((g5 1020 0) + (1 : Int)) ∧ 0 ≤ (g5 1031 0) ∧ (g5 1031 0) ≤ 100 ∧ 0 ≤ (g5 1044 0) ∧ (g5 1044 0) ≤ 30 ∧ 0 ≤ (g5 1045 0) ∧ (g5 1045 0) ≤ 30 ∧ 0 ≤ (g5 1024 0) ∧ ((g5 1021 0) = 0 → 0 ≤ (g5 1023 0) ∧ (g5 1023 0) ≤ 20 ∧ (g5 1031 0) ≤ 3 * (g5 1023 0) + 5 ∧ (g5 1024 0) ≤ 2 * ((g5 1020 0) + (1 : Int)) ∧ (g5 1044 0) ≤ (g5 1023 0) ∧ (g5 1045 0) ≤ (g5 1023 0)) ∧ (g5 1021 0) = 0) ∧ (0 ≤ (30 * (20 - (g5 1023 0)) + 14) ∧ (30 * (20 - (g5 1023 0)) + 14) < d) ∧ (0 ≤ (30 * (20 - (g5 1023 0)) + 14) ∧ (30 * (20 - (g5 1023 0)) + 14) + 1 ≤ ((if 0 < (S 1021 0) then 12 else 30 * (20 - (S 1023 0)) + 25))) ∧ (∀ r66 : Int, sv_R r66 → ∀ g62 : sv_S, (((g5 1020 0) + (1 : Int)) ≤ (g62 1020 0) ∧ (g62 1020 0) < (S 1012 0) ∧ 0 ≤ (g62 1021 0) ∧ (0 < (g5 1021 0) → 0 < (g62 1021 0)) ∧ (g5 1007 0) ≤ (g62 1007 0) ∧ (g62 1007 0) ≤ 90 ∧ sm_LN (g62 4) 400 (g62 1007 0) ∧ ((g5 1009 0) = 1 → (g62 1009 0) = 1) ∧ ((g62 1021 0) = 0 → sm_WF (g62 11) (g62 12) (g62 13) (g62 1100001) (g62 1100002) (g62 1100005) (g62 1100003) (g62 1100004) (g62 1024 0) (g62 1007 0) (g62 1009 0) (sm_fn (g62 1032 0) (g62 21) (g62 1043 0)) ∧ sm_PX (g5 11) (g5 12) (g5 13) (g5 1100001) (g5 1100002) (g5 1100005) (g5 1100003) (g5 1100004) (g62 11) (g62 12) (g62 13) (g62 1100001) (g62 1100002) (g62 1100005) (g62 1100003) (g62 1100004) (g5 1024 0) ∧ sm_FT (g62 11) (g62 12) (g62 13) (g62 1100019) (g62 17) (g62 18) (g62 21) (g62 19) (g62 20) (g62 22) (g62 1100016) (g62 1024 0) (g62 1007 0) (g62 1009 0) (g62 1032 0) (g62 1032 0) ∧ sm_WG (g62 1100001) (g62 1100019) (g62 1043 0) ∧ sm_F1 (g5 1100019) (g62 1100019) (g5 1024 0) ∧ sm_F1 (g5 1100035) (g62 1100035) (g5 1024 0) ∧ sm_F1 (g5 17) (g62 17) (g5 1032 0) ∧ sm_F1 (g5 18) (g62 18) (g5 1032 0) ∧ sm_F1 (g5 21) (g62 21) (g5 1032 0) ∧ sm_F1 (g5 20) (g62 20) (g5 1032 0) ∧ sm_F1 (g5 22) (g62 22) (g5 1032 0) ∧ sm_F1 (g5 1100016) (g62 1100016) (g5 1032 0) ∧ sm_F1 (g5 19) (g62 19) (8 * (g5 1032 0)) ∧ sm_FN (g62 1100016) (g5 1032 0) (g62 1032 0) ∧ sm_RG (g62 11) (g62 12) (g62 13) (g62 1100035) (g62 1024 0)) ∧ (g62 1100036 0) = (g5 1100036 0) ∧ sm_KL (g5 15) (g5 16) (g62 15) (g62 16) (g5 1031 0) ∧ sm_HD (g62 23) (g62 24) (g62 1100018 0) (g62 1007 0) ∧ sm_HD (g62 25) (fun _ : Int => (g62 1042 0)) 1 (g62 1007 0) ∧ (g62 1031 0) = (g5 1031 0) ∧ (g62 1043 0) = (g5 1043 0) ∧ (g62 1044 0) = (g5 1044 0) ∧ (g62 1045 0) = (g5 1045 0) ∧ (g5 1032 0) ≤ (g62 1032 0) ∧ (g62 1032 0) ≤ 1 + (g62 1020 0) ∧ (g62 1100018 0) = (g62 1032 0) ∧ (g5 1024 0) ≤ (g62 1024 0) ∧ ((g62 1021 0) = 0 → (g62 1023 0) = (g5 1023 0) ∧ (g62 1024 0) + 1 ≤ (g5 1024 0) + 2 * ((g62 1020 0) - ((g5 1020 0) + (1 : Int)))) ∧ (0 < (g62 1021 0) → (g62 1024 0) ≤ (g5 1024 0) + 2 * ((g62 1020 0) - ((g5 1020 0) + (1 : Int))) + 2 * (30 * (20 - (g5 1023 0)) + 14)) ∧ -1 ≤ r66 ∧ r66 < 12000 ∧ ((g62 1021 0) = 0 → sm_ex (g62 1100001) (g62 1100002) (g62 1100005) (g62 1024 0) 1 r66 (17 * (20 - (g5 1023 0))) (19 - (g5 1023 0)) ∧ ((g5 1020 0) + (1 : Int)) < (g62 1020 0))) → (0 ≤ (g62 1024 0) ∧ (g62 1024 0) < 12000 ∧ -1 ≤ (g62 1100036 0) ∧ (g62 1100036 0) < (g62 1024 0)) ∧ (∀ r73 : Int, sv_R r73 → ∀ g69 : sv_S, (r73 = (g62 1024 0) ∧ (g69 1024 0) = (g62 1024 0) + 1 ∧ (g69 11 r73) = (15 : Int) ∧ (g69 12 (5 * r73)) = (-1 : Int) ∧ (g69 12 (5 * r73 + 1)) = r9 ∧ (g69 12 (5 * r73 + 2)) = r66 ∧ (g69 12 (5 * r73 + 3)) = -1 ∧ (g69 12 (5 * r73 + 4)) = -1 ∧ (g69 13 r73) = -1 ∧ (g69 14 r73) = 0 ∧ (∀ n : Int, n < (g62 1024 0) → (g69 14 n) = (g62 14 n)) ∧ (sm_WF (g62 11) (g62 12) (g62 13) (g62 1100001) (g62 1100002) (g62 1100005) (g62 1100003) (g62 1100004) (g62 1024 0) (g62 1007 0) (g62 1009 0) (sm_fn (g62 1032 0) (g62 21) (g62 1043 0)) → sm_WF (g69 11) (g69 12) (g69 13) (g62 1100001) (g62 1100002) (g62 1100005) (g62 1100003) (g62 1100004) (g69 1024 0) (g62 1007 0) (g62 1009 0) (sm_fn (g62 1032 0) (g62 21) (g62 1043 0)) ∧ (g62 1100001 r73) = 0) ∧ sm_PX (g62 11) (g62 12) (g62 13) (g62 1100001) (g62 1100002) (g62 1100005) (g62 1100003) (g62 1100004) (g69 11) (g69 12) (g69 13) (g62 1100001) (g62 1100002) (g62 1100005) (g62 1100003) (g62 1100004) (g62 1024 0) ∧ (g69 1100019 r73) = (g62 1043 0) ∧ sm_F1 (g62 1100019) (g69 1100019) (g62 1024 0) ∧ (sm_WG (g62 1100001) (g62 1100019) (g62 1043 0) → sm_WG (g62 1100001) (g69 1100019) (g62 1043 0)) ∧ (sm_FT (g62 11) (g62 12) (g62 13) (g62 1100019) (g62 17) (g62 18) (g62 21) (g62 19) (g62 20) (g62 22) (g62 1100016) (g62 1024 0) (g62 1007 0) (g62 1009 0) (g62 1032 0) (g62 1032 0) → sm_FT (g69 11) (g69 12) (g69 13) (g69 1100019) (g62 17) (g62 18) (g62 21) (g62 19) (g62 20) (g62 22) (g62 1100016) (g69 1024 0) (g62 1007 0) (g62 1009 0) (g62 1032 0) (g62 1032 0)) ∧ (g69 1100035 r73) = (g62 1100036 0) ∧ sm_F1 (g62 1100035) (g69 1100035) (g62 1024 0) ∧ (sm_RG (g62 11) (g62 12) (g62 13) (g62 1100035) (g62 1024 0) → ((15 : Int) = 20 → ((-1 : Int) = -1 ∨ (0 ≤ (-1 : Int) ∧ (-1 : Int) < (g62 1024 0) ∧ (g62 1100035 (-1 : Int)) = (g62 1100036 0)))) → ((15 : Int) = 24 → (r9 = -1 ∨ (0 ≤ r9 ∧ r9 < (g62 1024 0) ∧ (g62 1100035 r9) = (g62 1100036 0))) ∧ (r66 = -1 ∨ (0 ≤ r66 ∧ r66 < (g62 1024 0) ∧ (g62 1100035 r66) = (g62 1100036 0)))) → ((15 : Int) = 25 ∨ (15 : Int) = 26 → (r9 = -1 ∨ (0 ≤ r9 ∧ r9 < (g62 1024 0) ∧ (g62 1100035 r9) = (g62 1100036 0)))) → ((15 : Int) = 27 → ((-1 : Int) = -1 ∨ (0 ≤ (-1 : Int) ∧ (-1 : Int) < (g62 1024 0) ∧ (g62 1100035 (-1 : Int)) = (g62 1100036 0)))) → ((15 : Int) = 28 → (r66 = -1 ∨ (0 ≤ r66 ∧ r66 < (g62 1024 0) ∧ (g62 1100035 r66) = (g62 1100036 0)))) → ((15 : Int) = 33 → (-1 : Int) = -1 ∧ r66 = -1) → ((15 : Int) = 34 ∨ (15 : Int) = 35 → r9 = -1) → sm_RG (g69 11) (g69 12) (g69 13) (g69 1100035) (g69 1024 0))) → (sv_R ((17 * (20 - (S 1023 0)) + 17))) ∧ (sv_R ((20 - (S 1023 0)))) ∧ (((g62 1021 0) = 0 → sm_WG (g62 1100001) (g69 1100019) (g62 1043 0) → (g69 1100019 r73) = (g62 1043 0) → sm_WG (fun i' : Int => if i' = r73 then (1 : Int) else (g62 1100001) i') (g69 1100019) (g62 1043 0)) → (((g62 1021 0) = 0 → sm_WF (g69 11) (g69 12) (g69 13) (g62 1100001) (g62 1100002) (g62 1100005) (g62 1100003) (g62 1100004) (g69 1024 0) (g62 1007 0) (g62 1009 0) (sm_fn (g62 1032 0) (g62 21) (g62 1043 0)) → (g62 1100001 r73) = 0 → 0 ≤ r73 → r73 < (g69 1024 0) → (g69 13 r73) = -1 → (g69 11 r73) = 15 → (-1 ≤ (g69 12 (5 * r73)) ∧ (g69 12 (5 * r73)) ≤ 10) → (sm_ex (g62 1100001) (g62 1100002) (g62 1100005) (g69 1024 0) 1 (g69 12 (5 * r73 + 1)) ((17 * (20 - (S 1023 0)) + 17) - 3) (20 - (S 1023 0))) → ((g69 12 (5 * r73 + 1)) < r73) → ((g69 11 (g69 12 (5 * r73 + 1))) = 2 ∨ (g69 11 (g69 12 (5 * r73 + 1))) = 7) → (sm_ex (g62 1100001) (g62 1100002) (g62 1100005) (g69 1024 0) 1 (g69 12 (5 * r73 + 2)) ((17 * (20 - (S 1023 0)) + 17) - 3) ((20 - (S 1023 0)) - 1)) → (0 ≤ (17 * (20 - (S 1023 0)) + 17)) → (0 ≤ (20 - (S 1023 0))) → sm_WF (g69 11) (g69 12) (g69 13) (fun i' : Int => if i' = r73 then (1 : Int) else (g62 1100001) i') (fun i' : Int => if i' = r73 then ((17 * (20 - (S 1023 0)) + 17)) else (g62 1100002) i') (fun i' : Int => if i' = r73 then ((20 - (S 1023 0))) else (g62 1100005) i') (fun i' : Int => if i' = r73 then (0 : Int) else (g62 1100003) i') (fun i' : Int => if i' = r73 then (0 : Int) else (g62 1100004) i') (g69 1024 0) (g62 1007 0) (g62 1009 0) (sm_fn (g62 1032 0) (g62 21) (g62 1043 0))) → ((S 1020 0) ≤ (g62 1020 0) ∧ (g62 1020 0) < (S 1012 0) ∧ 0 ≤ (g62 1021 0) ∧ (0 < (S 1021 0) → 0 < (g62 1021 0)) ∧ (S 1007 0) ≤ (g62 1007 0) ∧ (g62 1007 0) ≤ 90 ∧ sm_LN (g62 4) 400 (g62 1007 0) ∧ ((S 1009 0) = 1 → (g62 1009 0) = 1) ∧ ((g62 1021 0) = 0 → sm_WF (g69 11) (g69 12) (g69 13) (fun i' : Int => if i' = r73 then (1 : Int) else (g62 1100001) i') (fun i' : Int => if i' = r73 then ((17 * (20 - (S 1023 0)) + 17)) else (g62 1100002) i') (fun i' : Int => if i' = r73 then ((20 - (S 1023 0))) else (g62 1100005) i') (fun i' : Int => if i' = r73 then (0 : Int) else (g62 1100003) i') (fun i' : Int => if i' = r73 then (0 : Int) else (g62 1100004) i') (g69 1024 0) (g62 1007 0) (g62 1009 0) (sm_fn (g62 1032 0) (g62 21) (g62 1043 0)) ∧ sm_PX (S 11) (S 12) (S 13) (S 1100001) (S 1100002) (S 1100005) (S 1100003) (S 1100004) (g69 11) (g69 12) (g69 13) (fun i' : Int => if i' = r73 then (1 : Int) else (g62 1100001) i') (fun i' : Int => if i' = r73 then ((17 * (20 - (S 1023 0)) + 17)) else (g62 1100002) i') (fun i' : Int => if i' = r73 then ((20 - (S 1023 0))) else (g62 1100005) i') (fun i' : Int => if i' = r73 then (0 : Int) else (g62 1100003) i') (fun i' : Int => if i' = r73 then (0 : Int) else (g62 1100004) i') (S 1024 0) ∧ sm_FT (g69 11) (g69 12) (g69 13) (g69 1100019) (g62 17) (g62 18) (g62 21) (g62 19) (g62 20) (g62 22) (g62 1100016) (g69 1024 0) (g62 1007 0) (g62 1009 0) (g62 1032 0) (g62 1032 0) ∧ sm_WG (fun i' : Int => if i' = r73 then (1 : Int) else (g62 1100001) i') (g69 1100019) (g62 1043 0) ∧ sm_F1 (S 1100019) (g69 1100019) (S 1024 0) ∧ sm_F1 (S 1100035) (g69 1100035) (S 1024 0) ∧ sm_F1 (S 17) (g62 17) (S 1032 0) ∧ sm_F1 (S 18) (g62 18) (S 1032 0) ∧ sm_F1 (S 21) (g62 21) (S 1032 0) ∧ sm_F1 (S 20) (g62 20) (S 1032 0) ∧ sm_F1 (S 22) (g62 22) (S 1032 0) ∧ sm_F1 (S 1100016) (g62 1100016) (S 1032 0) ∧ sm_F1 (S 19) (g62 19) (8 * (S 1032 0)) ∧ sm_FN (g62 1100016) (S 1032 0) (g62 1032 0) ∧ sm_RG (g69 11) (g69 12) (g69 13) (g69 1100035) (g69 1024 0)) ∧ (g62 1100036 0) = (S 1100036 0) ∧ sm_KL (S 15) (S 16) (g62 15) (g62 16) (S 1031 0) ∧ sm_HD (g62 23) (g62 24) (g62 1100018 0) (g62 1007 0) ∧ sm_HD (g62 25) (fun _ : Int => (g62 1042 0)) 1 (g62 1007 0) ∧ (g62 1031 0) = (S 1031 0) ∧ (g62 1043 0) = (S 1043 0) ∧ (g62 1044 0) = (S 1044 0) ∧ (g62 1045 0) = (S 1045 0) ∧ (S 1032 0) ≤ (g62 1032 0) ∧ (g62 1032 0) ≤ 1 + (g62 1020 0) ∧ (g62 1100018 0) = (g62 1032 0) ∧ (S 1024 0) ≤ (g69 1024 0) ∧ ((g62 1021 0) = 0 → (g62 1023 0) = (S 1023 0) ∧ (g69 1024 0) + 1 ≤ (S 1024 0) + 2 * ((g62 1020 0) - (S 1020 0))) ∧ (0 < (g62 1021 0) → (g69 1024 0) ≤ (S 1024 0) + 2 * ((g62 1020 0) - (S 1020 0)) + 2 * ((if 0 < (S 1021 0) then 12 else 30 * (20 - (S 1023 0)) + 25))) ∧ -1 ≤ r73 ∧ r73 < 12000 ∧ ((g62 1021 0) = 0 → (S 1020 0) < (g62 1020 0) ∧ 1 ≤ (S 6 (S 1020 0)) ∧ sm_ex (fun i' : Int => if i' = r73 then (1 : Int) else (g62 1100001) i') (fun i' : Int => if i' = r73 then ((17 * (20 - (S 1023 0)) + 17)) else (g62 1100002) i') (fun i' : Int => if i' = r73 then ((20 - (S 1023 0))) else (g62 1100005) i') (g69 1024 0) 1 r73 (17 * (20 - (S 1023 0)) + 17) (20 - (S 1023 0)) ∧ ((g69 11 r73) = 2 ∨ (g69 11 r73) = 7 → (if r73 = r73 then ((17 * (20 - (S 1023 0)) + 17)) else (g62 1100002 r73)) ≤ 17 * (20 - (S 1023 0)) + 2)) ∧ (0 < (S 1021 0) → (g62 1020 0) = (S 1020 0) ∧ (g69 1024 0) = (S 1024 0))))))))))) ∧ ((¬ (¬ r24 = (0 : Int))) → (0 ≤ (g5 1020 0) ∧ (g5 1020 0) ≤ 4000 ∧ 0 ≤ (g5 1021 0) ∧ 1 ≤ (3 : Int)) ∧ (∀ r94 : Int, sv_R r94 → ∀ g90 : sv_S, (r94 = 0 ∧ 0 < (g90 1021 0) ∧ (0 < (g5 1021 0) → (g90 1021 0) = (g5 1021 0))) → ((S 1020 0) ≤ (g5 1020 0) ∧ (g5 1020 0) < (S 1012 0) ∧ 0 ≤ (g90 1021 0) ∧ (0 < (S 1021 0) → 0 < (g90 1021 0)) ∧ (S 1007 0) ≤ (g5 1007 0) ∧ (g5 1007 0) ≤ 90 ∧ sm_LN (g5 4) 400 (g5 1007 0) ∧ ((S 1009 0) = 1 → (g5 1009 0) = 1) ∧ ((g90 1021 0) = 0 → sm_WF (g5 11) (g5 12) (g5 13) (g5 1100001) (g5 1100002) (g5 1100005) (g5 1100003) (g5 1100004) (g5 1024 0) (g5 1007 0) (g5 1009 0) (sm_fn (g5 1032 0) (g5 21) (g5 1043 0)) ∧ sm_PX (S 11) (S 12) (S 13) (S 1100001) (S 1100002) (S 1100005) (S 1100003) (S 1100004) (g5 11) (g5 12) (g5 13) (g5 1100001) (g5 1100002) (g5 1100005) (g5 1100003) (g5 1100004) (S 1024 0) ∧ sm_FT (g5 11) (g5 12) (g5 13) (g5 1100019) (g5 17) (g5 18) (g5 21) (g5 19) (g5 20) (g5 22) (g5 1100016) (g5 1024 0) (g5 1007 0) (g5 1009 0) (g5 1032 0) (g5 1032 0) ∧ sm_WG (g5 1100001) (g5 1100019) (g5 1043 0) ∧ sm_F1 (S 1100019) (g5 1100019) (S 1024 0) ∧ sm_F1 (S 1100035) (g5 1100035) (S 1024 0) ∧ sm_F1 (S 17) (g5 17) (S 1032 0) ∧ sm_F1 (S 18) (g5 18) (S 1032 0) ∧ sm_F1 (S 21) (g5 21) (S 1032 0) ∧ sm_F1 (S 20) (g5 20) (S 1032 0) ∧ sm_F1 (S 22) (g5 22) (S 1032 0) ∧ sm_F1 (S 1100016) (g5 1100016) (S 1032 0) ∧ sm_F1 (S 19) (g5 19) (8 * (S 1032 0)) ∧ sm_FN (g5 1100016) (S 1032 0) (g5 1032 0) ∧ sm_RG (g5 11) (g5 12) (g5 13) (g5 1100035) (g5 1024 0)) ∧ (g5 1100036 0) = (S 1100036 0) ∧ sm_KL (S 15) (S 16) (g5 15) (g5 16) (S 1031 0) ∧ sm_HD (g5 23) (g5 24) (g5 1100018 0) (g5 1007 0) ∧ sm_HD (g5 25) (fun _ : Int => (g5 1042 0)) 1 (g5 1007 0) ∧ (g5 1031 0) = (S 1031 0) ∧ (g5 1043 0) = (S 1043 0) ∧ (g5 1044 0) = (S 1044 0) ∧ (g5 1045 0) = (S 1045 0) ∧ (S 1032 0) ≤ (g5 1032 0) ∧ (g5 1032 0) ≤ 1 + (g5 1020 0) ∧ (g5 1100018 0) = (g5 1032 0) ∧ (S 1024 0) ≤ (g5 1024 0) ∧ ((g90 1021 0) = 0 → (g5 1023 0) = (S 1023 0) ∧ (g5 1024 0) + 1 ≤ (S 1024 0) + 2 * ((g5 1020 0) - (S 1020 0))) ∧ (0 < (g90 1021 0) → (g5 1024 0) ≤ (S 1024 0) + 2 * ((g5 1020 0) - (S 1020 0)) + 2 * ((if 0 < (S 1021 0) then 12 else 30 * (20 - (S 1023 0)) + 25))) ∧ -1 ≤ (-1 : Int) ∧ (-1 : Int) < 12000 ∧ ((g90 1021 0) = 0 → (S 1020 0) < (g5 1020 0) ∧ 1 ≤ (S 6 (S 1020 0)) ∧ sm_ex (g5 1100001) (g5 1100002) (g5 1100005) (g5 1024 0) 1 (-1 : Int) (17 * (20 - (S 1023 0)) + 17) (20 - (S 1023 0)) ∧ ((g5 11 (-1 : Int)) = 2 ∨ (g5 11 (-1 : Int)) = 7 → (g5 1100002 (-1 : Int)) ≤ 17 * (20 - (S 1023 0)) + 2)) ∧ (0 < (S 1021 0) → (g5 1020 0) = (S 1020 0) ∧ (g5 1024 0) = (S 1024 0)))))))) ∧ ((¬ (¬ r18 = (-1 : Int))) → ((S 1020 0) ≤ (g5 1020 0) ∧ (g5 1020 0) < (S 1012 0) ∧ 0 ≤ (g5 1021 0) ∧ (0 < (S 1021 0) → 0 < (g5 1021 0)) ∧ (S 1007 0) ≤ (g5 1007 0) ∧ (g5 1007 0) ≤ 90 ∧ sm_LN (g5 4) 400 (g5 1007 0) ∧ ((S 1009 0) = 1 → (g5 1009 0) = 1) ∧ ((g5 1021 0) = 0 → sm_WF (g5 11) (g5 12) (g5 13) (g5 1100001) (g5 1100002) (g5 1100005) (g5 1100003) (g5 1100004) (g5 1024 0) (g5 1007 0) (g5 1009 0) (sm_fn (g5 1032 0) (g5 21) (g5 1043 0)) ∧ sm_PX (S 11) (S 12) (S 13) (S 1100001) (S 1100002) (S 1100005) (S 1100003) (S 1100004) (g5 11) (g5 12) (g5 13) (g5 1100001) (g5 1100002) (g5 1100005) (g5 1100003) (g5 1100004) (S 1024 0) ∧ sm_FT (g5 11) (g5 12) (g5 13) (g5 1100019) (g5 17) (g5 18) (g5 21) (g5 19) (g5 20) (g5 22) (g5 1100016) (g5 1024 0) (g5 1007 0) (g5 1009 0) (g5 1032 0) (g5 1032 0) ∧ sm_WG (g5 1100001) (g5 1100019) (g5 1043 0) ∧ sm_F1 (S 1100019) (g5 1100019) (S 1024 0) ∧ sm_F1 (S 1100035) (g5 1100035) (S 1024 0) ∧ sm_F1 (S 17) (g5 17) (S 1032 0) ∧ sm_F1 (S 18) (g5 18) (S 1032 0) ∧ sm_F1 (S 21) (g5 21) (S 1032 0) ∧ sm_F1 (S 20) (g5 20) (S 1032 0) ∧ sm_F1 (S 22) (g5 22) (S 1032 0) ∧ sm_F1 (S 1100016) (g5 1100016) (S 1032 0) ∧ sm_F1 (S 19) (g5 19) (8 * (S 1032 0)) ∧ sm_FN (g5 1100016) (S 1032 0) (g5 1032 0) ∧ sm_RG (g5 11) (g5 12) (g5 13) (g5 1100035) (g5 1024 0)) ∧ (g5 1100036 0) = (S 1100036 0) ∧ sm_KL (S 15) (S 16) (g5 15) (g5 16) (S 1031 0) ∧ sm_HD (g5 23) (g5 24) (g5 1100018 0) (g5 1007 0) ∧ sm_HD (g5 25) (fun _ : Int => (g5 1042 0)) 1 (g5 1007 0) ∧ (g5 1031 0) = (S 1031 0) ∧ (g5 1043 0) = (S 1043 0) ∧ (g5 1044 0) = (S 1044 0) ∧ (g5 1045 0) = (S 1045 0) ∧ (S 1032 0) ≤ (g5 1032 0) ∧ (g5 1032 0) ≤ 1 + (g5 1020 0) ∧ (g5 1100018 0) = (g5 1032 0) ∧ (S 1024 0) ≤ (g5 1024 0) ∧ ((g5 1021 0) = 0 → (g5 1023 0) = (S 1023 0) ∧ (g5 1024 0) + 1 ≤ (S 1024 0) + 2 * ((g5 1020 0) - (S 1020 0))) ∧ (0 < (g5 1021 0) → (g5 1024 0) ≤ (S 1024 0) + 2 * ((g5 1020 0) - (S 1020 0)) + 2 * ((if 0 < (S 1021 0) then 12 else 30 * (20 - (S 1023 0)) + 25))) ∧ -1 ≤ r9 ∧ r9 < 12000 ∧ ((g5 1021 0) = 0 → (S 1020 0) < (g5 1020 0) ∧ 1 ≤ (S 6 (S 1020 0)) ∧ sm_ex (g5 1100001) (g5 1100002) (g5 1100005) (g5 1024 0) 1 r9 (17 * (20 - (S 1023 0)) + 17) (20 - (S 1023 0)) ∧ ((g5 11 r9) = 2 ∨ (g5 11 r9) = 7 → (g5 1100002 r9) ≤ 17 * (20 - (S 1023 0)) + 2)) ∧ (0 < (S 1021 0) → (g5 1020 0) = (S 1020 0) ∧ (g5 1024 0) = (S 1024 0))))))) ∧ ((¬ ((g5 1021 0) ≤ (0 : Int))) → ((S 1020 0) ≤ (g5 1020 0) ∧ (g5 1020 0) < (S 1012 0) ∧ 0 ≤ (g5 1021 0) ∧ (0 < (S 1021 0) → 0 < (g5 1021 0)) ∧ (S 1007 0) ≤ (g5 1007 0) ∧ (g5 1007 0) ≤ 90 ∧ sm_LN (g5 4) 400 (g5 1007 0) ∧ ((S 1009 0) = 1 → (g5 1009 0) = 1) ∧ ((g5 1021 0) = 0 → sm_WF (g5 11) (g5 12) (g5 13) (g5 1100001) (g5 1100002) (g5 1100005) (g5 1100003) (g5 1100004) (g5 1024 0) (g5 1007 0) (g5 1009 0) (sm_fn (g5 1032 0) (g5 21) (g5 1043 0)) ∧ sm_PX (S 11) (S 12) (S 13) (S 1100001) (S 1100002) (S 1100005) (S 1100003) (S 1100004) (g5 11) (g5 12) (g5 13) (g5 1100001) (g5 1100002) (g5 1100005) (g5 1100003) (g5 1100004) (S 1024 0) ∧ sm_FT (g5 11) (g5 12) (g5 13) (g5 1100019) (g5 17) (g5 18) (g5 21) (g5 19) (g5 20) (g5 22) (g5 1100016) (g5 1024 0) (g5 1007 0) (g5 1009 0) (g5 1032 0) (g5 1032 0) ∧ sm_WG (g5 1100001) (g5 1100019) (g5 1043 0) ∧ sm_F1 (S 1100019) (g5 1100019) (S 1024 0) ∧ sm_F1 (S 1100035) (g5 1100035) (S 1024 0) ∧ sm_F1 (S 17) (g5 17) (S 1032 0) ∧ sm_F1 (S 18) (g5 18) (S 1032 0) ∧ sm_F1 (S 21) (g5 21) (S 1032 0) ∧ sm_F1 (S 20) (g5 20) (S 1032 0) ∧ sm_F1 (S 22) (g5 22) (S 1032 0) ∧ sm_F1 (S 1100016) (g5 1100016) (S 1032 0) ∧ sm_F1 (S 19) (g5 19) (8 * (S 1032 0)) ∧ sm_FN (g5 1100016) (S 1032 0) (g5 1032 0) ∧ sm_RG (g5 11) (g5 12) (g5 13) (g5 1100035) (g5 1024 0)) ∧ (g5 1100036 0) = (S 1100036 0) ∧ sm_KL (S 15) (S 16) (g5 15) (g5 16) (S 1031 0) ∧ sm_HD (g5 23) (g5 24) (g5 1100018 0) (g5 1007 0) ∧ sm_HD (g5 25) (fun _ : Int => (g5 1042 0)) 1 (g5 1007 0) ∧ (g5 1031 0) = (S 1031 0) ∧ (g5 1043 0) = (S 1043 0) ∧ (g5 1044 0) = (S 1044 0) ∧ (g5 1045 0) = (S 1045 0) ∧ (S 1032 0) ≤ (g5 1032 0) ∧ (g5 1032 0) ≤ 1 + (g5 1020 0) ∧ (g5 1100018 0) = (g5 1032 0) ∧ (S 1024 0) ≤ (g5 1024 0) ∧ ((g5 1021 0) = 0 → (g5 1023 0) = (S 1023 0) ∧ (g5 1024 0) + 1 ≤ (S 1024 0) + 2 * ((g5 1020 0) - (S 1020 0))) ∧ (0 < (g5 1021 0) → (g5 1024 0) ≤ (S 1024 0) + 2 * ((g5 1020 0) - (S 1020 0)) + 2 * ((if 0 < (S 1021 0) then 12 else 30 * (20 - (S 1023 0)) + 25))) ∧ -1 ≤ (-1 : Int) ∧ (-1 : Int) < 12000 ∧ ((g5 1021 0) = 0 → (S 1020 0) < (g5 1020 0) ∧ 1 ≤ (S 6 (S 1020 0)) ∧ sm_ex (g5 1100001) (g5 1100002) (g5 1100005) (g5 1024 0) 1 (-1 : Int) (17 * (20 - (S 1023 0)) + 17) (20 - (S 1023 0)) ∧ ((g5 11 (-1 : Int)) = 2 ∨ (g5 11 (-1 : Int)) = 7 → (g5 1100002 (-1 : Int)) ≤ 17 * (20 - (S 1023 0)) + 2)) ∧ (0 < (S 1021 0) → (g5 1020 0) = (S 1020 0) ∧ (g5 1024 0) = (S 1024 0))))))) := by
  intro d
  intro p1
  intro S
  intro h1_
  rintro ⟨h2_, h3_⟩
  rintro ⟨h4_, ⟨h5_, ⟨h6_, ⟨h7_, ⟨h8_, ⟨h9_, ⟨h10_, ⟨h11_, ⟨h12_, ⟨h13_, ⟨h14_, ⟨h15_, ⟨h16_, ⟨h17_, ⟨h18_, ⟨h19_, ⟨h20_, ⟨h21_, ⟨h22_, ⟨h23_, ⟨h24_, ⟨h25_, ⟨h26_, ⟨h27_, ⟨h28_, h29_⟩⟩⟩⟩⟩⟩⟩⟩⟩⟩⟩⟩⟩⟩⟩⟩⟩⟩⟩⟩⟩⟩⟩⟩⟩
  intro h30_
  refine ⟨(la_assigned_0 h2_ h3_), ?_⟩
  refine ⟨⟨h4_, ⟨h5_, ⟨h6_, ⟨h7_, ⟨h8_, ⟨h9_, ⟨h10_, ⟨h11_, ⟨h12_, ⟨h13_, ⟨h14_, ⟨h15_, ⟨h16_, ⟨h17_, ⟨h18_, ⟨h19_, ⟨h20_, ⟨h21_, ⟨h22_, ⟨h23_, ⟨h24_, ⟨h25_, ⟨h26_, ⟨h27_, ⟨h28_, h29_⟩⟩⟩⟩⟩⟩⟩⟩⟩⟩⟩⟩⟩⟩⟩⟩⟩⟩⟩⟩⟩⟩⟩⟩⟩, ?_⟩
  refine ⟨?_, ?_⟩
  · skip
    refine ⟨?_, ?_⟩
    · skip
      by_cases c31_ : 0 < S 1021 0
      · skip
        have e32_ : (if 0 < S 1021 0 then 12 else 30 * (20 - S 1023 0) + 25 : Int) = 12 := if_pos c31_
        have e33_ : (if 0 < S 1021 0 then 11 else 30 * (20 - S 1023 0) + 24 : Int) = 11 := if_pos c31_
        exact (la_assigned_2 e33_)
      · skip
        have e34_ : (if 0 < S 1021 0 then 12 else 30 * (20 - S 1023 0) + 25 : Int) = 30 * (20 - S 1023 0) + 25 := if_neg c31_
        have e35_ : (if 0 < S 1021 0 then 11 else 30 * (20 - S 1023 0) + 24 : Int) = 30 * (20 - S 1023 0) + 24 := if_neg c31_
        obtain ⟨h36_, ⟨h37_, ⟨h38_, ⟨h39_, ⟨h40_, h41_⟩⟩⟩⟩⟩ := (h29_ (la_assigned_3 h7_ c31_))
        obtain ⟨h42_, ⟨h43_, ⟨h44_, ⟨h45_, h46_⟩⟩⟩⟩ := (h13_ (la_assigned_3 h7_ c31_))
        exact (la_assigned_4 e35_ h37_)
    by_cases c47_ : 0 < S 1021 0
    · skip
      have e48_ : (if 0 < S 1021 0 then 12 else 30 * (20 - S 1023 0) + 25 : Int) = 12 := if_pos c47_
      have e49_ : (if 0 < S 1021 0 then 11 else 30 * (20 - S 1023 0) + 24 : Int) = 11 := if_pos c47_
      exact (la_assigned_5 h30_ e48_ e49_)
    · skip
      have e50_ : (if 0 < S 1021 0 then 12 else 30 * (20 - S 1023 0) + 25 : Int) = 30 * (20 - S 1023 0) + 25 := if_neg c47_
      have e51_ : (if 0 < S 1021 0 then 11 else 30 * (20 - S 1023 0) + 24 : Int) = 30 * (20 - S 1023 0) + 24 := if_neg c47_
      obtain ⟨h52_, ⟨h53_, ⟨h54_, ⟨h55_, ⟨h56_, h57_⟩⟩⟩⟩⟩ := (h29_ (la_assigned_3 h7_ c47_))
      obtain ⟨h58_, ⟨h59_, ⟨h60_, ⟨h61_, h62_⟩⟩⟩⟩ := (h13_ (la_assigned_3 h7_ c47_))
      exact (la_assigned_6 h30_ e50_ e51_)
  refine ⟨?_, ?_⟩
  · skip
    refine ⟨?_, ?_⟩
    · skip
      by_cases c63_ : 0 < S 1021 0
      · skip
        have e64_ : (if 0 < S 1021 0 then 12 else 30 * (20 - S 1023 0) + 25 : Int) = 12 := if_pos c63_
        have e65_ : (if 0 < S 1021 0 then 11 else 30 * (20 - S 1023 0) + 24 : Int) = 11 := if_pos c63_
        exact (la_assigned_2 e65_)
      · skip
        have e66_ : (if 0 < S 1021 0 then 12 else 30 * (20 - S 1023 0) + 25 : Int) = 30 * (20 - S 1023 0) + 25 := if_neg c63_
        have e67_ : (if 0 < S 1021 0 then 11 else 30 * (20 - S 1023 0) + 24 : Int) = 30 * (20 - S 1023 0) + 24 := if_neg c63_
        obtain ⟨h68_, ⟨h69_, ⟨h70_, ⟨h71_, ⟨h72_, h73_⟩⟩⟩⟩⟩ := (h29_ (la_assigned_3 h7_ c63_))
        obtain ⟨h74_, ⟨h75_, ⟨h76_, ⟨h77_, h78_⟩⟩⟩⟩ := (h13_ (la_assigned_3 h7_ c63_))
        exact (la_assigned_4 e67_ h69_)
    by_cases c79_ : 0 < S 1021 0
    · skip
      have e80_ : (if 0 < S 1021 0 then 12 else 30 * (20 - S 1023 0) + 25 : Int) = 12 := if_pos c79_
      have e81_ : (if 0 < S 1021 0 then 11 else 30 * (20 - S 1023 0) + 24 : Int) = 11 := if_pos c79_
      exact (la_assigned_7 e80_ e81_)
    · skip
      have e82_ : (if 0 < S 1021 0 then 12 else 30 * (20 - S 1023 0) + 25 : Int) = 30 * (20 - S 1023 0) + 25 := if_neg c79_
      have e83_ : (if 0 < S 1021 0 then 11 else 30 * (20 - S 1023 0) + 24 : Int) = 30 * (20 - S 1023 0) + 24 := if_neg c79_
      obtain ⟨h84_, ⟨h85_, ⟨h86_, ⟨h87_, ⟨h88_, h89_⟩⟩⟩⟩⟩ := (h29_ (la_assigned_3 h7_ c79_))
      obtain ⟨h90_, ⟨h91_, ⟨h92_, ⟨h93_, h94_⟩⟩⟩⟩ := (h13_ (la_assigned_3 h7_ c79_))
      exact (la_assigned_8 e82_ e83_)
  intro r9
  intro h95_
  intro g5
  rintro ⟨h96_, ⟨h97_, ⟨h98_, ⟨h99_, ⟨h100_, ⟨h101_, ⟨h102_, ⟨h103_, ⟨h104_, ⟨h105_, ⟨h106_, ⟨h107_, ⟨h108_, ⟨h109_, ⟨h110_, ⟨h111_, ⟨h112_, ⟨h113_, ⟨h114_, ⟨h115_, ⟨h116_, ⟨h117_, ⟨h118_, ⟨h119_, ⟨h120_, ⟨h121_, h122_⟩⟩⟩⟩⟩⟩⟩⟩⟩⟩⟩⟩⟩⟩⟩⟩⟩⟩⟩⟩⟩⟩⟩⟩⟩⟩
  intro h123_
  refine ⟨?_, ?_⟩
  · skip
    intro h124_
    have h125_ : ¬ (0 < S 1021 0) := fun q_ => (la_assigned_9 h124_) (h99_ q_)
    obtain ⟨h126_, h127_⟩ := (h117_ (la_assigned_10 h98_ h124_))
    obtain ⟨h128_, ⟨h129_, ⟨h130_, ⟨h131_, h132_⟩⟩⟩⟩ := (h13_ (la_assigned_3 h7_ h125_))
    obtain ⟨h133_, ⟨h134_, ⟨h135_, ⟨h136_, ⟨h137_, ⟨h138_, ⟨h139_, ⟨h140_, ⟨h141_, ⟨h142_, ⟨h143_, ⟨h144_, ⟨h145_, ⟨h146_, h147_⟩⟩⟩⟩⟩⟩⟩⟩⟩⟩⟩⟩⟩⟩ := (h104_ (la_assigned_10 h98_ h124_))
    obtain ⟨h148_, ⟨h149_, ⟨h150_, h151_⟩⟩⟩ := (h121_ (la_assigned_10 h98_ h124_))
    have e152_ : (if 0 < S 1021 0 then 12 else 30 * (20 - S 1023 0) + 25 : Int) = 30 * (20 - S 1023 0) + 25 := if_neg h125_
    have e153_ : (if 0 < S 1021 0 then 11 else 30 * (20 - S 1023 0) + 24 : Int) = 30 * (20 - S 1023 0) + 24 := if_neg h125_
    obtain ⟨h154_, ⟨h155_, ⟨h156_, ⟨h157_, ⟨h158_, h159_⟩⟩⟩⟩⟩ := (h29_ (la_assigned_3 h7_ h125_))
    refine ⟨(la_assigned_11 h4_ (sm_TK_t h6_).2 h97_ h148_), ?_⟩
    refine ⟨(la_assigned_12 e152_ h155_), ?_⟩
    intro r18
    intro h160_
    rintro ⟨h161_, ⟨h162_, h163_⟩⟩
    refine ⟨?_, ?_⟩
    · skip
      intro h164_
      have h165_ := (h163_ h164_)
      refine ⟨(la_assigned_14 h120_ (sm_ex_e h150_).1), ?_⟩
      intro r24
      intro h166_
      rintro ⟨h167_, h168_⟩
      refine ⟨?_, ?_⟩
      · skip
        intro h169_
        have h170_ := (h167_.resolve_left h169_)
        obtain ⟨h171_, ⟨h172_, h173_⟩⟩ := (h168_ h170_)
        have h174_ := (h151_ h173_)
        intro h175_
        refine ⟨(la_assigned_17 h4_ (sm_TK_t h6_).2 h97_ h148_), ?_⟩
        refine ⟨?_, ?_⟩
        · skip
          intro h176_
          have h177_ := (h162_.resolve_right h176_)
          refine ⟨?_, ?_⟩
          · skip
            refine ⟨(la_assigned_20 h4_ h148_), ?_⟩
            refine ⟨?_, ?_⟩
            · skip
              have h178_ := ((sm_TK_go h6_ (S 1020 0) h4_ h5_) h149_)
              have h179_ := ((sm_TK_go h6_ (g5 1020 0) (la_assigned_21 h4_ h148_) h97_) (la_assigned_22 h165_))
              have h180_ := (h179_ (la_assigned_23 h165_))
              exact h180_
            refine ⟨h6_, ?_⟩
            refine ⟨h98_, ?_⟩
            refine ⟨h8_, ?_⟩
            refine ⟨h9_, ?_⟩
            refine ⟨(la_assigned_24 h10_ h100_), ?_⟩
            refine ⟨h101_, ?_⟩
            refine ⟨h102_, ?_⟩
            refine ⟨?_, ?_⟩
            · skip
              intro h181_
              refine ⟨h133_, ?_⟩
              refine ⟨h135_, ?_⟩
              refine ⟨h136_, ?_⟩
              refine ⟨?_, ?_⟩
              · skip
                have h182_ := ((sm_TK_go h6_ (S 1020 0) h4_ h5_) h149_)
                have h183_ := ((sm_TK_go h6_ (g5 1020 0) (la_assigned_21 h4_ h148_) h97_) (la_assigned_22 h165_))
                have h184_ := (h183_ (la_assigned_23 h165_))
                have e185_ : S 1100016 (g5 1043 0) = S 1100016 (S 1043 0) := congrArg ((S 1100016)) h110_
                exact (la_assigned_26 h131_ (sm_F1_at h144_ (g5 1043 0) (la_assigned_25 h19_ h20_ h110_)) e185_)
              exact h147_
            refine ⟨(la_assigned_27 h14_ h105_), ?_⟩
            refine ⟨(la_assigned_28 h15_ h105_ h116_), ?_⟩
            refine ⟨h107_, ?_⟩
            refine ⟨h108_, ?_⟩
            refine ⟨(la_assigned_29 h18_ h110_), ?_⟩
            refine ⟨(la_assigned_30 h19_ h20_ h110_ h113_ h115_), ?_⟩
            refine ⟨h115_, ?_⟩
            refine ⟨(la_assigned_31 h114_), ?_⟩
            refine ⟨(la_assigned_29 h22_ h109_), ?_⟩
            refine ⟨(la_assigned_32 h109_ h155_ h156_), ?_⟩
            refine ⟨(la_assigned_29 h24_ h111_), ?_⟩
            refine ⟨(la_assigned_33 h111_ h155_ h158_), ?_⟩
            refine ⟨(la_assigned_29 h26_ h112_), ?_⟩
            refine ⟨(la_assigned_33 h112_ h155_ h159_), ?_⟩
            refine ⟨(la_assigned_21 (sm_ex_e h150_).1 (sm_ex_e h150_).2.1), ?_⟩
            refine ⟨(la_assigned_34 h109_ h111_ h112_ h126_ h127_ h154_ h155_ h156_ h157_ h158_ h159_), ?_⟩
            exact (la_assigned_10 h98_ h124_)
          refine ⟨(la_assigned_35 h30_ h126_ e152_ h155_), ?_⟩
          refine ⟨(la_assigned_36 h126_ e152_ h155_), ?_⟩
          intro r36
          intro h186_
          intro g32
          rintro ⟨h187_, ⟨h188_, ⟨h189_, ⟨h190_, ⟨h191_, ⟨h192_, ⟨h193_, ⟨h194_, ⟨h195_, ⟨h196_, ⟨h197_, ⟨h198_, ⟨h199_, ⟨h200_, ⟨h201_, ⟨h202_, ⟨h203_, ⟨h204_, ⟨h205_, ⟨h206_, ⟨h207_, ⟨h208_, ⟨h209_, ⟨h210_, ⟨h211_, h212_⟩⟩⟩⟩⟩⟩⟩⟩⟩⟩⟩⟩⟩⟩⟩⟩⟩⟩⟩⟩⟩⟩⟩⟩⟩
          refine ⟨?_, ?_⟩
          · skip
            refine ⟨(la_assigned_37 (sm_ex_e h150_).1 (sm_ex_e h150_).2.1 h207_), ?_⟩
            refine ⟨?_, ?_⟩
            · skip
              have h213_ := ((sm_TK_go h6_ (S 1020 0) h4_ h5_) h149_)
              have h214_ := ((sm_TK_go h6_ (g5 1020 0) (la_assigned_21 h4_ h148_) h97_) (la_assigned_22 h165_))
              have h215_ := (h214_ (la_assigned_23 h165_))
              exact (la_assigned_38 (sm_TK_t h6_).2 h126_ h127_ h154_ h157_ h188_ h189_ h208_ h209_)
            refine ⟨(la_assigned_39 h14_ h105_ h196_), ?_⟩
            exact (la_assigned_40 h15_ h105_ h116_ h196_ h207_)
          intro r43
          intro h216_
          intro g39
          rintro ⟨h217_, ⟨h218_, ⟨h219_, ⟨h220_, ⟨h221_, ⟨h222_, ⟨h223_, ⟨h224_, ⟨h225_, ⟨h226_, ⟨h227_, ⟨h228_, ⟨h229_, ⟨h230_, ⟨h231_, ⟨h232_, ⟨h233_, ⟨h234_, ⟨h235_, h236_⟩⟩⟩⟩⟩⟩⟩⟩⟩⟩⟩⟩⟩⟩⟩⟩⟩⟩⟩
          refine ⟨(la_assigned_41 h154_ h155_), ?_⟩
          refine ⟨(la_assigned_42 h154_ h155_), ?_⟩
          intro h237_
          intro h238_
          refine ⟨(la_assigned_43 h148_ h187_), ?_⟩
          refine ⟨h188_, ?_⟩
          refine ⟨h189_, ?_⟩
          refine ⟨(la_assigned_44 h125_), ?_⟩
          refine ⟨(la_assigned_45 h100_ h191_), ?_⟩
          refine ⟨h192_, ?_⟩
          refine ⟨h193_, ?_⟩
          refine ⟨(la_assigned_46 h103_ h194_), ?_⟩
          refine ⟨?_, ?_⟩
          · skip
            intro h239_
            obtain ⟨h240_, h241_⟩ := (h208_ h239_)
            obtain ⟨h242_, ⟨h243_, ⟨h244_, ⟨h245_, ⟨h246_, ⟨h247_, ⟨h248_, ⟨h249_, ⟨h250_, ⟨h251_, ⟨h252_, ⟨h253_, ⟨h254_, ⟨h255_, h256_⟩⟩⟩⟩⟩⟩⟩⟩⟩⟩⟩⟩⟩⟩ := (h195_ h239_)
            obtain ⟨h257_, h258_⟩ := (h212_ h239_)
            obtain ⟨h259_, h260_⟩ := (h228_ h242_)
            have h261_ := (h232_ h245_)
            have h262_ := (h233_ h244_)
            have h263_ := (h236_ h256_)
            have h264_ := (h237_ h239_)
            have h265_ := (h238_ h239_)
            have h266_ := (h263_ la_assigned_48)
            have h267_ := (h264_ h261_)
            have h268_ := (h265_ h259_)
            have h269_ := (h266_ la_assigned_49)
            have h270_ := (h267_ h230_)
            have h271_ := (h268_ h260_)
            have h272_ := (h269_ la_assigned_50)
            have h273_ := (h271_ (la_assigned_51 h217_ (sm_ex_e h257_).1 (sm_ex_e h257_).2.1))
            have h274_ := (h272_ la_assigned_52)
            have h275_ := (h273_ (la_assigned_53 h217_ h218_))
            have h276_ := (h274_ la_assigned_54)
            have h277_ := (h275_ h225_)
            have h278_ := (h276_ la_assigned_55)
            have h279_ := (h277_ h219_)
            have h280_ := (h278_ la_assigned_56)
            have h281_ := (h279_ (la_assigned_57 (la_assigned_13 h161_ h164_) h177_ h220_))
            refine ⟨?_, ?_⟩
            · skip
              have h282_ := (h227_ r43)
              have h283_ := ((sm_TK_go h6_ (S 1020 0) h4_ h5_) h149_)
              have h284_ := ((sm_TK_go h6_ (g5 1020 0) (la_assigned_21 h4_ h148_) h97_) (la_assigned_22 h165_))
              have h285_ := (h284_ (la_assigned_23 h165_))
              have h286_ : sm_ex (g32 1100001) (g32 1100002) (g32 1100005) (g39 1024 0) 1 (g39 12 (5 * r43 + 1)) (17 * (20 - S 1023 0) + 17 - 3) (20 - S 1023 0) := by
                have e287_ : g32 11 r9 = g32 11 (g39 12 (5 * r43 + 1)) := congrArg ((g32 11)) (la_assigned_66 h221_)
                have e288_ : g32 1100001 r9 = g32 1100001 (g39 12 (5 * r43 + 1)) := congrArg ((g32 1100001)) (la_assigned_66 h221_)
                have e289_ : g32 1100002 r9 = g32 1100002 (g39 12 (5 * r43 + 1)) := congrArg ((g32 1100002)) (la_assigned_66 h221_)
                have e290_ : g32 1100003 r9 = g32 1100003 (g39 12 (5 * r43 + 1)) := congrArg ((g32 1100003)) (la_assigned_66 h221_)
                have e291_ : g32 1100004 r9 = g32 1100004 (g39 12 (5 * r43 + 1)) := congrArg ((g32 1100004)) (la_assigned_66 h221_)
                have e292_ : g32 1100005 r9 = g32 1100005 (g39 12 (5 * r43 + 1)) := congrArg ((g32 1100005)) (la_assigned_66 h221_)
                have e293_ : g32 12 (5 * r9) = g32 12 (5 * g39 12 (5 * r43 + 1)) := congrArg ((g32 12)) (la_assigned_67 h221_)
                have e294_ : g32 12 (5 * r9 + 1) = g32 12 (5 * g39 12 (5 * r43 + 1) + 1) := congrArg ((g32 12)) (la_assigned_68 h221_)
                have e295_ : g32 12 (5 * r9 + 2) = g32 12 (5 * g39 12 (5 * r43 + 1) + 2) := congrArg ((g32 12)) (la_assigned_69 h221_)
                have e296_ : g32 12 (5 * r9 + 3) = g32 12 (5 * g39 12 (5 * r43 + 1) + 3) := congrArg ((g32 12)) (la_assigned_70 h221_)
                have e297_ : g32 12 (5 * r9 + 4) = g32 12 (5 * g39 12 (5 * r43 + 1) + 4) := congrArg ((g32 12)) (la_assigned_71 h221_)
                have e298_ : g32 13 r9 = g32 13 (g39 12 (5 * r43 + 1)) := congrArg ((g32 13)) (la_assigned_66 h221_)
                have e299_ : g39 11 r9 = g39 11 (g39 12 (5 * r43 + 1)) := congrArg ((g39 11)) (la_assigned_66 h221_)
                have e300_ : g39 13 r9 = g39 13 (g39 12 (5 * r43 + 1)) := congrArg ((g39 13)) (la_assigned_66 h221_)
                have e301_ : g5 11 r9 = g5 11 (g39 12 (5 * r43 + 1)) := congrArg ((g5 11)) (la_assigned_66 h221_)
                have e302_ : g5 1100001 r9 = g5 1100001 (g39 12 (5 * r43 + 1)) := congrArg ((g5 1100001)) (la_assigned_66 h221_)
                have e303_ : g5 1100002 r9 = g5 1100002 (g39 12 (5 * r43 + 1)) := congrArg ((g5 1100002)) (la_assigned_66 h221_)
                have e304_ : g5 1100003 r9 = g5 1100003 (g39 12 (5 * r43 + 1)) := congrArg ((g5 1100003)) (la_assigned_66 h221_)
                have e305_ : g5 1100004 r9 = g5 1100004 (g39 12 (5 * r43 + 1)) := congrArg ((g5 1100004)) (la_assigned_66 h221_)
                have e306_ : g5 1100005 r9 = g5 1100005 (g39 12 (5 * r43 + 1)) := congrArg ((g5 1100005)) (la_assigned_66 h221_)
                have e307_ : g5 12 (5 * r9) = g5 12 (5 * g39 12 (5 * r43 + 1)) := congrArg ((g5 12)) (la_assigned_67 h221_)
                have e308_ : g5 12 (5 * r9 + 1) = g5 12 (5 * g39 12 (5 * r43 + 1) + 1) := congrArg ((g5 12)) (la_assigned_68 h221_)
                have e309_ : g5 12 (5 * r9 + 2) = g5 12 (5 * g39 12 (5 * r43 + 1) + 2) := congrArg ((g5 12)) (la_assigned_69 h221_)
                have e310_ : g5 12 (5 * r9 + 3) = g5 12 (5 * g39 12 (5 * r43 + 1) + 3) := congrArg ((g5 12)) (la_assigned_70 h221_)
                have e311_ : g5 12 (5 * r9 + 4) = g5 12 (5 * g39 12 (5 * r43 + 1) + 4) := congrArg ((g5 12)) (la_assigned_71 h221_)
                have e312_ : g5 13 r9 = g5 13 (g39 12 (5 * r43 + 1)) := congrArg ((g5 13)) (la_assigned_66 h221_)
                exact (sm_ex_eq h221_ (sm_ex_i (sm_ex_e h150_).1 (la_assigned_59 (sm_ex_e h150_).2.1 h207_ h218_) (la_assigned_72 (sm_ex_e h150_).2.2.1 (sm_PX_at h243_ r9 (sm_ex_e h150_).1 (sm_ex_e h150_).2.1).2.2.2.2.2.2.2.1) (la_assigned_73 h174_ (sm_PX_at h243_ r9 (sm_ex_e h150_).1 (sm_ex_e h150_).2.1).2.2.2.2.2.2.2.2.1) (la_assigned_74 (sm_ex_e h150_).2.2.2.2 (sm_PX_at h243_ r9 (sm_ex_e h150_).1 (sm_ex_e h150_).2.1).2.2.2.2.2.2.2.2.2.1)))
              have h313_ : g39 11 (g39 12 (5 * r43 + 1)) = 2 ∨ g39 11 (g39 12 (5 * r43 + 1)) = 7 := by
                have e314_ : g32 11 r9 = g32 11 (g39 12 (5 * r43 + 1)) := congrArg ((g32 11)) (la_assigned_66 h221_)
                have e315_ : g32 1100001 r9 = g32 1100001 (g39 12 (5 * r43 + 1)) := congrArg ((g32 1100001)) (la_assigned_66 h221_)
                have e316_ : g32 1100002 r9 = g32 1100002 (g39 12 (5 * r43 + 1)) := congrArg ((g32 1100002)) (la_assigned_66 h221_)
                have e317_ : g32 1100003 r9 = g32 1100003 (g39 12 (5 * r43 + 1)) := congrArg ((g32 1100003)) (la_assigned_66 h221_)
                have e318_ : g32 1100004 r9 = g32 1100004 (g39 12 (5 * r43 + 1)) := congrArg ((g32 1100004)) (la_assigned_66 h221_)
                have e319_ : g32 1100005 r9 = g32 1100005 (g39 12 (5 * r43 + 1)) := congrArg ((g32 1100005)) (la_assigned_66 h221_)
                have e320_ : g32 12 (5 * r9) = g32 12 (5 * g39 12 (5 * r43 + 1)) := congrArg ((g32 12)) (la_assigned_67 h221_)
                have e321_ : g32 12 (5 * r9 + 1) = g32 12 (5 * g39 12 (5 * r43 + 1) + 1) := congrArg ((g32 12)) (la_assigned_68 h221_)
                have e322_ : g32 12 (5 * r9 + 2) = g32 12 (5 * g39 12 (5 * r43 + 1) + 2) := congrArg ((g32 12)) (la_assigned_69 h221_)
                have e323_ : g32 12 (5 * r9 + 3) = g32 12 (5 * g39 12 (5 * r43 + 1) + 3) := congrArg ((g32 12)) (la_assigned_70 h221_)
                have e324_ : g32 12 (5 * r9 + 4) = g32 12 (5 * g39 12 (5 * r43 + 1) + 4) := congrArg ((g32 12)) (la_assigned_71 h221_)
                have e325_ : g32 13 r9 = g32 13 (g39 12 (5 * r43 + 1)) := congrArg ((g32 13)) (la_assigned_66 h221_)
                have e326_ : g39 11 r9 = g39 11 (g39 12 (5 * r43 + 1)) := congrArg ((g39 11)) (la_assigned_66 h221_)
                have e327_ : g39 13 r9 = g39 13 (g39 12 (5 * r43 + 1)) := congrArg ((g39 13)) (la_assigned_66 h221_)
                have e328_ : g5 11 r9 = g5 11 (g39 12 (5 * r43 + 1)) := congrArg ((g5 11)) (la_assigned_66 h221_)
                have e329_ : g5 1100001 r9 = g5 1100001 (g39 12 (5 * r43 + 1)) := congrArg ((g5 1100001)) (la_assigned_66 h221_)
                have e330_ : g5 1100002 r9 = g5 1100002 (g39 12 (5 * r43 + 1)) := congrArg ((g5 1100002)) (la_assigned_66 h221_)
                have e331_ : g5 1100003 r9 = g5 1100003 (g39 12 (5 * r43 + 1)) := congrArg ((g5 1100003)) (la_assigned_66 h221_)
                have e332_ : g5 1100004 r9 = g5 1100004 (g39 12 (5 * r43 + 1)) := congrArg ((g5 1100004)) (la_assigned_66 h221_)
                have e333_ : g5 1100005 r9 = g5 1100005 (g39 12 (5 * r43 + 1)) := congrArg ((g5 1100005)) (la_assigned_66 h221_)
                have e334_ : g5 12 (5 * r9) = g5 12 (5 * g39 12 (5 * r43 + 1)) := congrArg ((g5 12)) (la_assigned_67 h221_)
                have e335_ : g5 12 (5 * r9 + 1) = g5 12 (5 * g39 12 (5 * r43 + 1) + 1) := congrArg ((g5 12)) (la_assigned_68 h221_)
                have e336_ : g5 12 (5 * r9 + 2) = g5 12 (5 * g39 12 (5 * r43 + 1) + 2) := congrArg ((g5 12)) (la_assigned_69 h221_)
                have e337_ : g5 12 (5 * r9 + 3) = g5 12 (5 * g39 12 (5 * r43 + 1) + 3) := congrArg ((g5 12)) (la_assigned_70 h221_)
                have e338_ : g5 12 (5 * r9 + 4) = g5 12 (5 * g39 12 (5 * r43 + 1) + 4) := congrArg ((g5 12)) (la_assigned_71 h221_)
                have e339_ : g5 13 r9 = g5 13 (g39 12 (5 * r43 + 1)) := congrArg ((g5 13)) (la_assigned_66 h221_)
                exact (la_assigned_76 h173_ (sm_PX_at h229_ r9 (sm_ex_e h150_).1 (la_assigned_63 (sm_ex_e h150_).2.1 h207_)).1 (sm_PX_at h229_ (g39 12 (5 * r43 + 1)) (la_assigned_29 (sm_ex_e h150_).1 h221_) (la_assigned_64 (sm_ex_e h150_).2.1 h207_ h221_)).1 (sm_PX_at h243_ r9 (sm_ex_e h150_).1 (sm_ex_e h150_).2.1).1 (sm_PX_at h243_ (g39 12 (5 * r43 + 1)) (la_assigned_29 (sm_ex_e h150_).1 h221_) (la_assigned_65 (sm_ex_e h150_).2.1 h221_)).1 e326_ e328_)
              have h340_ := (h281_ h286_ (la_assigned_75 (sm_ex_e h150_).2.1 h207_ h217_ h221_) h313_ (sm_ex_eq h222_ (sm_ex_N (sm_ex_w h257_ (la_assigned_77 h126_) (la_assigned_78 h126_)) (la_assigned_79 h218_))) (la_assigned_80 h155_) (la_assigned_81 h155_))
              exact h340_
            refine ⟨(sm_PX_up_Ws (sm_PX_up_Lp (sm_PX_up_V (sm_PX_up_M (sm_PX_up_C (sm_PX_tr (sm_PX_tr (sm_PX_le h134_ (Int.le_refl _)) h243_ h116_) h229_ (la_assigned_45 h116_ h207_)) (la_assigned_82 h116_ h207_ h217_)) (la_assigned_82 h116_ h207_ h217_)) (la_assigned_82 h116_ h207_ h217_)) (la_assigned_82 h116_ h207_ h217_)) (la_assigned_82 h116_ h207_ h217_)), ?_⟩
            refine ⟨h262_, ?_⟩
            refine ⟨h270_, ?_⟩
            refine ⟨(sm_F1_tr (sm_F1_tr (sm_F1_le h137_ (Int.le_refl _)) h246_ h116_) h231_ (la_assigned_45 h116_ h207_)), ?_⟩
            refine ⟨(sm_F1_tr (sm_F1_tr (sm_F1_le h138_ (Int.le_refl _)) h247_ h116_) h235_ (la_assigned_45 h116_ h207_)), ?_⟩
            refine ⟨(sm_F1_tr (sm_F1_le h139_ (Int.le_refl _)) h248_ h113_), ?_⟩
            refine ⟨(sm_F1_tr (sm_F1_le h140_ (Int.le_refl _)) h249_ h113_), ?_⟩
            refine ⟨(sm_F1_tr (sm_F1_le h141_ (Int.le_refl _)) h250_ h113_), ?_⟩
            refine ⟨(sm_F1_tr (sm_F1_le h142_ (Int.le_refl _)) h251_ h113_), ?_⟩
            refine ⟨(sm_F1_tr (sm_F1_le h143_ (Int.le_refl _)) h252_ h113_), ?_⟩
            refine ⟨(sm_F1_tr (sm_F1_le h144_ (Int.le_refl _)) h253_ h113_), ?_⟩
            refine ⟨(sm_F1_tr (sm_F1_le h145_ (Int.le_refl _)) h254_ (la_assigned_83 h113_)), ?_⟩
            refine ⟨(sm_FN_cat (sm_FN_F h146_ (sm_F1_le h253_ (Int.le_refl _)) (Int.le_refl _)) (sm_FN_w h255_ (Int.le_refl _) (Int.le_refl _)) (Int.le_refl _) (Int.le_refl _)), ?_⟩
            exact h280_
          refine ⟨(la_assigned_84 h105_ h196_), ?_⟩
          refine ⟨(sm_KL_tr (sm_KL_le h106_ (Int.le_refl _)) (sm_KL_le h197_ (la_assigned_85 h109_)) (Int.le_refl _)), ?_⟩
          refine ⟨h198_, ?_⟩
          refine ⟨h199_, ?_⟩
          refine ⟨(la_assigned_84 h109_ h200_), ?_⟩
          refine ⟨(la_assigned_84 h110_ h201_), ?_⟩
          refine ⟨(la_assigned_84 h111_ h202_), ?_⟩
          refine ⟨(la_assigned_84 h112_ h203_), ?_⟩
          refine ⟨(la_assigned_45 h113_ h204_), ?_⟩
          refine ⟨h205_, ?_⟩
          refine ⟨h206_, ?_⟩
          refine ⟨(la_assigned_86 h116_ h207_ h218_), ?_⟩
          refine ⟨(la_assigned_87 h126_ h127_ h189_ h208_ h218_), ?_⟩
          refine ⟨(la_assigned_88 h126_ h127_ e152_ h155_ h208_ h209_ h218_), ?_⟩
          refine ⟨(la_assigned_89 (sm_ex_e h150_).1 (sm_ex_e h150_).2.1 h207_ h217_), ?_⟩
          refine ⟨?_, ?_⟩
          · skip
            have h341_ := (h227_ r43)
            have h342_ := ((sm_TK_go h6_ (S 1020 0) h4_ h5_) h149_)
            have h343_ := ((sm_TK_go h6_ (g5 1020 0) (la_assigned_21 h4_ h148_) h97_) (la_assigned_22 h165_))
            have h344_ := (h343_ (la_assigned_23 h165_))
            exact (la_assigned_90 (sm_TK_t h6_).2 h126_ h127_ h154_ h157_ h188_ h189_ h208_ h209_ h217_)
          refine ⟨?_, ?_⟩
          · skip
            intro h345_
            obtain ⟨h346_, h347_⟩ := (h208_ h345_)
            obtain ⟨h348_, ⟨h349_, ⟨h350_, ⟨h351_, ⟨h352_, ⟨h353_, ⟨h354_, ⟨h355_, ⟨h356_, ⟨h357_, ⟨h358_, ⟨h359_, ⟨h360_, ⟨h361_, h362_⟩⟩⟩⟩⟩⟩⟩⟩⟩⟩⟩⟩⟩⟩ := (h195_ h345_)
            obtain ⟨h363_, h364_⟩ := (h212_ h345_)
            obtain ⟨h365_, h366_⟩ := (h228_ h348_)
            have h367_ := (h232_ h351_)
            have h368_ := (h233_ h350_)
            have h369_ := (h236_ h362_)
            have h370_ := (h237_ h345_)
            have h371_ := (h238_ h345_)
            have h372_ := (h369_ la_assigned_48)
            have h373_ := (h370_ h367_)
            have h374_ := (h371_ h365_)
            have h375_ := (h372_ la_assigned_49)
            have h376_ := (h373_ h230_)
            have h377_ := (h374_ h366_)
            have h378_ := (h375_ la_assigned_50)
            have h379_ := (h377_ (la_assigned_51 h217_ (sm_ex_e h363_).1 (sm_ex_e h363_).2.1))
            have h380_ := (h378_ la_assigned_52)
            have h381_ := (h379_ (la_assigned_53 h217_ h218_))
            have h382_ := (h380_ la_assigned_54)
            have h383_ := (h381_ h225_)
            have h384_ := (h382_ la_assigned_55)
            have h385_ := (h383_ h219_)
            have h386_ := (h384_ la_assigned_56)
            have h387_ := (h385_ (la_assigned_57 (la_assigned_13 h161_ h164_) h177_ h220_))
            refine ⟨(la_assigned_91 h148_ h364_), ?_⟩
            refine ⟨h149_, ?_⟩
            refine ⟨(sm_ex_if (la_assigned_51 h217_ (sm_ex_e h363_).1 (sm_ex_e h363_).2.1) (la_assigned_53 h217_ h218_) la_assigned_92 la_assigned_93 la_assigned_94), ?_⟩
            intro h388_
            have h389_ := (h388_.resolve_left (la_assigned_95 h219_))
            have h390_ := (h227_ r43)
            have e391_ : (if r43 = r43 then 17 * (20 - S 1023 0) + 17 else g32 1100002 r43 : Int) = 17 * (20 - S 1023 0) + 17 := if_pos la_assigned_96
            have h392_ := ((sm_TK_go h6_ (g5 1020 0) (la_assigned_21 h4_ h148_) h97_) (la_assigned_22 h165_))
            have h393_ := ((sm_TK_go h6_ (S 1020 0) h4_ h5_) h149_)
            have h394_ := (h387_ (sm_ex_eq h221_ (sm_ex_i (sm_ex_e h150_).1 (la_assigned_59 (sm_ex_e h150_).2.1 h207_ h218_) (la_assigned_72 (sm_ex_e h150_).2.2.1 (sm_PX_at h349_ r9 (sm_ex_e h150_).1 (sm_ex_e h150_).2.1).2.2.2.2.2.2.2.1) (la_assigned_73 h174_ (sm_PX_at h349_ r9 (sm_ex_e h150_).1 (sm_ex_e h150_).2.1).2.2.2.2.2.2.2.2.1) (la_assigned_74 (sm_ex_e h150_).2.2.2.2 (sm_PX_at h349_ r9 (sm_ex_e h150_).1 (sm_ex_e h150_).2.1).2.2.2.2.2.2.2.2.2.1))))
            have h395_ := (h392_ (la_assigned_23 h165_))
            have h396_ := (h394_ (la_assigned_75 (sm_ex_e h150_).2.1 h207_ h217_ h221_))
            have e397_ : g32 11 r9 = g32 11 (g39 12 (5 * r43 + 1)) := congrArg ((g32 11)) (la_assigned_66 h221_)
            have e398_ : g32 1100001 r9 = g32 1100001 (g39 12 (5 * r43 + 1)) := congrArg ((g32 1100001)) (la_assigned_66 h221_)
            have e399_ : g32 1100002 r9 = g32 1100002 (g39 12 (5 * r43 + 1)) := congrArg ((g32 1100002)) (la_assigned_66 h221_)
            have e400_ : g32 1100003 r9 = g32 1100003 (g39 12 (5 * r43 + 1)) := congrArg ((g32 1100003)) (la_assigned_66 h221_)
            have e401_ : g32 1100004 r9 = g32 1100004 (g39 12 (5 * r43 + 1)) := congrArg ((g32 1100004)) (la_assigned_66 h221_)
            have e402_ : g32 1100005 r9 = g32 1100005 (g39 12 (5 * r43 + 1)) := congrArg ((g32 1100005)) (la_assigned_66 h221_)
            have e403_ : g32 12 (5 * r9) = g32 12 (5 * g39 12 (5 * r43 + 1)) := congrArg ((g32 12)) (la_assigned_67 h221_)
            have e404_ : g32 12 (5 * r9 + 1) = g32 12 (5 * g39 12 (5 * r43 + 1) + 1) := congrArg ((g32 12)) (la_assigned_68 h221_)
            have e405_ : g32 12 (5 * r9 + 2) = g32 12 (5 * g39 12 (5 * r43 + 1) + 2) := congrArg ((g32 12)) (la_assigned_69 h221_)
            have e406_ : g32 12 (5 * r9 + 3) = g32 12 (5 * g39 12 (5 * r43 + 1) + 3) := congrArg ((g32 12)) (la_assigned_70 h221_)
            have e407_ : g32 12 (5 * r9 + 4) = g32 12 (5 * g39 12 (5 * r43 + 1) + 4) := congrArg ((g32 12)) (la_assigned_71 h221_)
            have e408_ : g32 13 r9 = g32 13 (g39 12 (5 * r43 + 1)) := congrArg ((g32 13)) (la_assigned_66 h221_)
            have e409_ : g39 11 r9 = g39 11 (g39 12 (5 * r43 + 1)) := congrArg ((g39 11)) (la_assigned_66 h221_)
            have e410_ : g39 13 r9 = g39 13 (g39 12 (5 * r43 + 1)) := congrArg ((g39 13)) (la_assigned_66 h221_)
            have e411_ : g5 11 r9 = g5 11 (g39 12 (5 * r43 + 1)) := congrArg ((g5 11)) (la_assigned_66 h221_)
            have e412_ : g5 1100001 r9 = g5 1100001 (g39 12 (5 * r43 + 1)) := congrArg ((g5 1100001)) (la_assigned_66 h221_)
            have e413_ : g5 1100002 r9 = g5 1100002 (g39 12 (5 * r43 + 1)) := congrArg ((g5 1100002)) (la_assigned_66 h221_)
            have e414_ : g5 1100003 r9 = g5 1100003 (g39 12 (5 * r43 + 1)) := congrArg ((g5 1100003)) (la_assigned_66 h221_)
            have e415_ : g5 1100004 r9 = g5 1100004 (g39 12 (5 * r43 + 1)) := congrArg ((g5 1100004)) (la_assigned_66 h221_)
            have e416_ : g5 1100005 r9 = g5 1100005 (g39 12 (5 * r43 + 1)) := congrArg ((g5 1100005)) (la_assigned_66 h221_)
            have e417_ : g5 12 (5 * r9) = g5 12 (5 * g39 12 (5 * r43 + 1)) := congrArg ((g5 12)) (la_assigned_67 h221_)
            have e418_ : g5 12 (5 * r9 + 1) = g5 12 (5 * g39 12 (5 * r43 + 1) + 1) := congrArg ((g5 12)) (la_assigned_68 h221_)
            have e419_ : g5 12 (5 * r9 + 2) = g5 12 (5 * g39 12 (5 * r43 + 1) + 2) := congrArg ((g5 12)) (la_assigned_69 h221_)
            have e420_ : g5 12 (5 * r9 + 3) = g5 12 (5 * g39 12 (5 * r43 + 1) + 3) := congrArg ((g5 12)) (la_assigned_70 h221_)
            have e421_ : g5 12 (5 * r9 + 4) = g5 12 (5 * g39 12 (5 * r43 + 1) + 4) := congrArg ((g5 12)) (la_assigned_71 h221_)
            have e422_ : g5 13 r9 = g5 13 (g39 12 (5 * r43 + 1)) := congrArg ((g5 13)) (la_assigned_66 h221_)
            exact ((la_assigned_97 h219_ h389_)).elim
          intro h423_
          refine ⟨?_, ?_⟩
          · skip
            have h424_ := (h227_ r43)
            have h425_ := ((sm_TK_go h6_ (S 1020 0) h4_ h5_) h149_)
            have h426_ := ((sm_TK_go h6_ (g5 1020 0) (la_assigned_21 h4_ h148_) h97_) (la_assigned_22 h165_))
            have h427_ := (h426_ (la_assigned_23 h165_))
            exact ((la_assigned_98 h125_ h423_)).elim
          have h428_ := (h227_ r43)
          have h429_ := ((sm_TK_go h6_ (S 1020 0) h4_ h5_) h149_)
          have h430_ := ((sm_TK_go h6_ (g5 1020 0) (la_assigned_21 h4_ h148_) h97_) (la_assigned_22 h165_))
          have h431_ := (h430_ (la_assigned_23 h165_))
          exact ((la_assigned_98 h125_ h423_)).elim
        intro h432_
        have h433_ := (h162_.resolve_left (la_assigned_99 h432_))
        refine ⟨?_, ?_⟩
        · skip
          refine ⟨(la_assigned_20 h4_ h148_), ?_⟩
          refine ⟨?_, ?_⟩
          · skip
            have h434_ := ((sm_TK_go h6_ (S 1020 0) h4_ h5_) h149_)
            have h435_ := ((sm_TK_go h6_ (g5 1020 0) (la_assigned_21 h4_ h148_) h97_) (la_assigned_22 h165_))
            have h436_ := (h435_ (la_assigned_23 h165_))
            exact h436_
          refine ⟨h6_, ?_⟩
          refine ⟨h98_, ?_⟩
          refine ⟨h8_, ?_⟩
          refine ⟨h9_, ?_⟩
          refine ⟨(la_assigned_24 h10_ h100_), ?_⟩
          refine ⟨h101_, ?_⟩
          refine ⟨h102_, ?_⟩
          refine ⟨?_, ?_⟩
          · skip
            intro h437_
            refine ⟨h133_, ?_⟩
            refine ⟨h135_, ?_⟩
            refine ⟨h136_, ?_⟩
            refine ⟨?_, ?_⟩
            · skip
              have h438_ := ((sm_TK_go h6_ (S 1020 0) h4_ h5_) h149_)
              have h439_ := ((sm_TK_go h6_ (g5 1020 0) (la_assigned_21 h4_ h148_) h97_) (la_assigned_22 h165_))
              have h440_ := (h439_ (la_assigned_23 h165_))
              have e441_ : S 1100016 (g5 1043 0) = S 1100016 (S 1043 0) := congrArg ((S 1100016)) h110_
              exact (la_assigned_26 h131_ (sm_F1_at h144_ (g5 1043 0) (la_assigned_25 h19_ h20_ h110_)) e441_)
            exact h147_
          refine ⟨(la_assigned_27 h14_ h105_), ?_⟩
          refine ⟨(la_assigned_28 h15_ h105_ h116_), ?_⟩
          refine ⟨h107_, ?_⟩
          refine ⟨h108_, ?_⟩
          refine ⟨(la_assigned_29 h18_ h110_), ?_⟩
          refine ⟨(la_assigned_30 h19_ h20_ h110_ h113_ h115_), ?_⟩
          refine ⟨h115_, ?_⟩
          refine ⟨(la_assigned_31 h114_), ?_⟩
          refine ⟨(la_assigned_29 h22_ h109_), ?_⟩
          refine ⟨(la_assigned_32 h109_ h155_ h156_), ?_⟩
          refine ⟨(la_assigned_29 h24_ h111_), ?_⟩
          refine ⟨(la_assigned_33 h111_ h155_ h158_), ?_⟩
          refine ⟨(la_assigned_29 h26_ h112_), ?_⟩
          refine ⟨(la_assigned_33 h112_ h155_ h159_), ?_⟩
          refine ⟨(la_assigned_21 (sm_ex_e h150_).1 (sm_ex_e h150_).2.1), ?_⟩
          refine ⟨(la_assigned_34 h109_ h111_ h112_ h126_ h127_ h154_ h155_ h156_ h157_ h158_ h159_), ?_⟩
          exact (la_assigned_10 h98_ h124_)
        refine ⟨(la_assigned_35 h30_ h126_ e152_ h155_), ?_⟩
        refine ⟨(la_assigned_36 h126_ e152_ h155_), ?_⟩
        intro r66
        intro h442_
        intro g62
        rintro ⟨h443_, ⟨h444_, ⟨h445_, ⟨h446_, ⟨h447_, ⟨h448_, ⟨h449_, ⟨h450_, ⟨h451_, ⟨h452_, ⟨h453_, ⟨h454_, ⟨h455_, ⟨h456_, ⟨h457_, ⟨h458_, ⟨h459_, ⟨h460_, ⟨h461_, ⟨h462_, ⟨h463_, ⟨h464_, ⟨h465_, ⟨h466_, ⟨h467_, h468_⟩⟩⟩⟩⟩⟩⟩⟩⟩⟩⟩⟩⟩⟩⟩⟩⟩⟩⟩⟩⟩⟩⟩⟩⟩
        refine ⟨?_, ?_⟩
        · skip
          refine ⟨(la_assigned_37 (sm_ex_e h150_).1 (sm_ex_e h150_).2.1 h463_), ?_⟩
          refine ⟨?_, ?_⟩
          · skip
            have h469_ := ((sm_TK_go h6_ (S 1020 0) h4_ h5_) h149_)
            have h470_ := ((sm_TK_go h6_ (g5 1020 0) (la_assigned_21 h4_ h148_) h97_) (la_assigned_22 h165_))
            have h471_ := (h470_ (la_assigned_23 h165_))
            exact (la_assigned_38 (sm_TK_t h6_).2 h126_ h127_ h154_ h157_ h444_ h445_ h464_ h465_)
          refine ⟨(la_assigned_39 h14_ h105_ h452_), ?_⟩
          exact (la_assigned_40 h15_ h105_ h116_ h452_ h463_)
        intro r73
        intro h472_
        intro g69
        rintro ⟨h473_, ⟨h474_, ⟨h475_, ⟨h476_, ⟨h477_, ⟨h478_, ⟨h479_, ⟨h480_, ⟨h481_, ⟨h482_, ⟨h483_, ⟨h484_, ⟨h485_, ⟨h486_, ⟨h487_, ⟨h488_, ⟨h489_, ⟨h490_, ⟨h491_, h492_⟩⟩⟩⟩⟩⟩⟩⟩⟩⟩⟩⟩⟩⟩⟩⟩⟩⟩⟩
        refine ⟨(la_assigned_41 h154_ h155_), ?_⟩
        refine ⟨(la_assigned_42 h154_ h155_), ?_⟩
        intro h493_
        intro h494_
        refine ⟨(la_assigned_43 h148_ h443_), ?_⟩
        refine ⟨h444_, ?_⟩
        refine ⟨h445_, ?_⟩
        refine ⟨(la_assigned_44 h125_), ?_⟩
        refine ⟨(la_assigned_45 h100_ h447_), ?_⟩
        refine ⟨h448_, ?_⟩
        refine ⟨h449_, ?_⟩
        refine ⟨(la_assigned_46 h103_ h450_), ?_⟩
        refine ⟨?_, ?_⟩
        · skip
          intro h495_
          obtain ⟨h496_, h497_⟩ := (h464_ h495_)
          obtain ⟨h498_, ⟨h499_, ⟨h500_, ⟨h501_, ⟨h502_, ⟨h503_, ⟨h504_, ⟨h505_, ⟨h506_, ⟨h507_, ⟨h508_, ⟨h509_, ⟨h510_, ⟨h511_, h512_⟩⟩⟩⟩⟩⟩⟩⟩⟩⟩⟩⟩⟩⟩ := (h451_ h495_)
          obtain ⟨h513_, h514_⟩ := (h468_ h495_)
          obtain ⟨h515_, h516_⟩ := (h484_ h498_)
          have h517_ := (h488_ h501_)
          have h518_ := (h489_ h500_)
          have h519_ := (h492_ h512_)
          have h520_ := (h493_ h495_)
          have h521_ := (h494_ h495_)
          have h522_ := (h519_ la_assigned_100)
          have h523_ := (h520_ h517_)
          have h524_ := (h521_ h515_)
          have h525_ := (h522_ la_assigned_49)
          have h526_ := (h523_ h486_)
          have h527_ := (h524_ h516_)
          have h528_ := (h525_ la_assigned_50)
          have h529_ := (h527_ (la_assigned_51 h473_ (sm_ex_e h513_).1 (sm_ex_e h513_).2.1))
          have h530_ := (h528_ la_assigned_101)
          have h531_ := (h529_ (la_assigned_53 h473_ h474_))
          have h532_ := (h530_ la_assigned_54)
          have h533_ := (h531_ h481_)
          have h534_ := (h532_ la_assigned_102)
          have h535_ := (h533_ h475_)
          have h536_ := (h534_ la_assigned_56)
          have h537_ := (h535_ (la_assigned_103 h476_))
          refine ⟨?_, ?_⟩
          · skip
            have h538_ := (h483_ r73)
            have h539_ := ((sm_TK_go h6_ (S 1020 0) h4_ h5_) h149_)
            have h540_ := ((sm_TK_go h6_ (g5 1020 0) (la_assigned_21 h4_ h148_) h97_) (la_assigned_22 h165_))
            have h541_ := (h540_ (la_assigned_23 h165_))
            have h542_ : sm_ex (g62 1100001) (g62 1100002) (g62 1100005) (g69 1024 0) 1 (g69 12 (5 * r73 + 1)) (17 * (20 - S 1023 0) + 17 - 3) (20 - S 1023 0) := by
              have e543_ : g5 11 r9 = g5 11 (g69 12 (5 * r73 + 1)) := congrArg ((g5 11)) (la_assigned_66 h477_)
              have e544_ : g5 1100001 r9 = g5 1100001 (g69 12 (5 * r73 + 1)) := congrArg ((g5 1100001)) (la_assigned_66 h477_)
              have e545_ : g5 1100002 r9 = g5 1100002 (g69 12 (5 * r73 + 1)) := congrArg ((g5 1100002)) (la_assigned_66 h477_)
              have e546_ : g5 1100003 r9 = g5 1100003 (g69 12 (5 * r73 + 1)) := congrArg ((g5 1100003)) (la_assigned_66 h477_)
              have e547_ : g5 1100004 r9 = g5 1100004 (g69 12 (5 * r73 + 1)) := congrArg ((g5 1100004)) (la_assigned_66 h477_)
              have e548_ : g5 1100005 r9 = g5 1100005 (g69 12 (5 * r73 + 1)) := congrArg ((g5 1100005)) (la_assigned_66 h477_)
              have e549_ : g5 12 (5 * r9) = g5 12 (5 * g69 12 (5 * r73 + 1)) := congrArg ((g5 12)) (la_assigned_67 h477_)
              have e550_ : g5 12 (5 * r9 + 1) = g5 12 (5 * g69 12 (5 * r73 + 1) + 1) := congrArg ((g5 12)) (la_assigned_68 h477_)
              have e551_ : g5 12 (5 * r9 + 2) = g5 12 (5 * g69 12 (5 * r73 + 1) + 2) := congrArg ((g5 12)) (la_assigned_69 h477_)
              have e552_ : g5 12 (5 * r9 + 3) = g5 12 (5 * g69 12 (5 * r73 + 1) + 3) := congrArg ((g5 12)) (la_assigned_70 h477_)
              have e553_ : g5 12 (5 * r9 + 4) = g5 12 (5 * g69 12 (5 * r73 + 1) + 4) := congrArg ((g5 12)) (la_assigned_71 h477_)
              have e554_ : g5 13 r9 = g5 13 (g69 12 (5 * r73 + 1)) := congrArg ((g5 13)) (la_assigned_66 h477_)
              have e555_ : g62 11 r9 = g62 11 (g69 12 (5 * r73 + 1)) := congrArg ((g62 11)) (la_assigned_66 h477_)
              have e556_ : g62 1100001 r9 = g62 1100001 (g69 12 (5 * r73 + 1)) := congrArg ((g62 1100001)) (la_assigned_66 h477_)
              have e557_ : g62 1100002 r9 = g62 1100002 (g69 12 (5 * r73 + 1)) := congrArg ((g62 1100002)) (la_assigned_66 h477_)
              have e558_ : g62 1100003 r9 = g62 1100003 (g69 12 (5 * r73 + 1)) := congrArg ((g62 1100003)) (la_assigned_66 h477_)
              have e559_ : g62 1100004 r9 = g62 1100004 (g69 12 (5 * r73 + 1)) := congrArg ((g62 1100004)) (la_assigned_66 h477_)
              have e560_ : g62 1100005 r9 = g62 1100005 (g69 12 (5 * r73 + 1)) := congrArg ((g62 1100005)) (la_assigned_66 h477_)
              have e561_ : g62 12 (5 * r9) = g62 12 (5 * g69 12 (5 * r73 + 1)) := congrArg ((g62 12)) (la_assigned_67 h477_)
              have e562_ : g62 12 (5 * r9 + 1) = g62 12 (5 * g69 12 (5 * r73 + 1) + 1) := congrArg ((g62 12)) (la_assigned_68 h477_)
              have e563_ : g62 12 (5 * r9 + 2) = g62 12 (5 * g69 12 (5 * r73 + 1) + 2) := congrArg ((g62 12)) (la_assigned_69 h477_)
              have e564_ : g62 12 (5 * r9 + 3) = g62 12 (5 * g69 12 (5 * r73 + 1) + 3) := congrArg ((g62 12)) (la_assigned_70 h477_)
              have e565_ : g62 12 (5 * r9 + 4) = g62 12 (5 * g69 12 (5 * r73 + 1) + 4) := congrArg ((g62 12)) (la_assigned_71 h477_)
              have e566_ : g62 13 r9 = g62 13 (g69 12 (5 * r73 + 1)) := congrArg ((g62 13)) (la_assigned_66 h477_)
              have e567_ : g69 11 r9 = g69 11 (g69 12 (5 * r73 + 1)) := congrArg ((g69 11)) (la_assigned_66 h477_)
              have e568_ : g69 13 r9 = g69 13 (g69 12 (5 * r73 + 1)) := congrArg ((g69 13)) (la_assigned_66 h477_)
              exact (sm_ex_i (la_assigned_29 (sm_ex_e h150_).1 h477_) (la_assigned_60 (sm_ex_e h150_).2.1 h463_ h474_ h477_) (la_assigned_104 (sm_ex_e h150_).2.2.1 (sm_PX_at h499_ (g69 12 (5 * r73 + 1)) (la_assigned_29 (sm_ex_e h150_).1 h477_) (la_assigned_65 (sm_ex_e h150_).2.1 h477_)).2.2.2.2.2.2.2.1 (sm_PX_at h499_ r9 (sm_ex_e h150_).1 (sm_ex_e h150_).2.1).2.2.2.2.2.2.2.1 e544_ e556_) (la_assigned_105 h174_ (sm_PX_at h499_ (g69 12 (5 * r73 + 1)) (la_assigned_29 (sm_ex_e h150_).1 h477_) (la_assigned_65 (sm_ex_e h150_).2.1 h477_)).2.2.2.2.2.2.2.2.1 e545_) (la_assigned_106 (sm_ex_e h150_).2.2.2.2 (sm_PX_at h499_ r9 (sm_ex_e h150_).1 (sm_ex_e h150_).2.1).2.2.2.2.2.2.2.2.2.1 e560_))
            have h569_ : g69 11 (g69 12 (5 * r73 + 1)) = 2 ∨ g69 11 (g69 12 (5 * r73 + 1)) = 7 := by
              have e570_ : g5 11 r9 = g5 11 (g69 12 (5 * r73 + 1)) := congrArg ((g5 11)) (la_assigned_66 h477_)
              have e571_ : g5 1100001 r9 = g5 1100001 (g69 12 (5 * r73 + 1)) := congrArg ((g5 1100001)) (la_assigned_66 h477_)
              have e572_ : g5 1100002 r9 = g5 1100002 (g69 12 (5 * r73 + 1)) := congrArg ((g5 1100002)) (la_assigned_66 h477_)
              have e573_ : g5 1100003 r9 = g5 1100003 (g69 12 (5 * r73 + 1)) := congrArg ((g5 1100003)) (la_assigned_66 h477_)
              have e574_ : g5 1100004 r9 = g5 1100004 (g69 12 (5 * r73 + 1)) := congrArg ((g5 1100004)) (la_assigned_66 h477_)
              have e575_ : g5 1100005 r9 = g5 1100005 (g69 12 (5 * r73 + 1)) := congrArg ((g5 1100005)) (la_assigned_66 h477_)
              have e576_ : g5 12 (5 * r9) = g5 12 (5 * g69 12 (5 * r73 + 1)) := congrArg ((g5 12)) (la_assigned_67 h477_)
              have e577_ : g5 12 (5 * r9 + 1) = g5 12 (5 * g69 12 (5 * r73 + 1) + 1) := congrArg ((g5 12)) (la_assigned_68 h477_)
              have e578_ : g5 12 (5 * r9 + 2) = g5 12 (5 * g69 12 (5 * r73 + 1) + 2) := congrArg ((g5 12)) (la_assigned_69 h477_)
              have e579_ : g5 12 (5 * r9 + 3) = g5 12 (5 * g69 12 (5 * r73 + 1) + 3) := congrArg ((g5 12)) (la_assigned_70 h477_)
              have e580_ : g5 12 (5 * r9 + 4) = g5 12 (5 * g69 12 (5 * r73 + 1) + 4) := congrArg ((g5 12)) (la_assigned_71 h477_)
              have e581_ : g5 13 r9 = g5 13 (g69 12 (5 * r73 + 1)) := congrArg ((g5 13)) (la_assigned_66 h477_)
              have e582_ : g62 11 r9 = g62 11 (g69 12 (5 * r73 + 1)) := congrArg ((g62 11)) (la_assigned_66 h477_)
              have e583_ : g62 1100001 r9 = g62 1100001 (g69 12 (5 * r73 + 1)) := congrArg ((g62 1100001)) (la_assigned_66 h477_)
              have e584_ : g62 1100002 r9 = g62 1100002 (g69 12 (5 * r73 + 1)) := congrArg ((g62 1100002)) (la_assigned_66 h477_)
              have e585_ : g62 1100003 r9 = g62 1100003 (g69 12 (5 * r73 + 1)) := congrArg ((g62 1100003)) (la_assigned_66 h477_)
              have e586_ : g62 1100004 r9 = g62 1100004 (g69 12 (5 * r73 + 1)) := congrArg ((g62 1100004)) (la_assigned_66 h477_)
              have e587_ : g62 1100005 r9 = g62 1100005 (g69 12 (5 * r73 + 1)) := congrArg ((g62 1100005)) (la_assigned_66 h477_)
              have e588_ : g62 12 (5 * r9) = g62 12 (5 * g69 12 (5 * r73 + 1)) := congrArg ((g62 12)) (la_assigned_67 h477_)
              have e589_ : g62 12 (5 * r9 + 1) = g62 12 (5 * g69 12 (5 * r73 + 1) + 1) := congrArg ((g62 12)) (la_assigned_68 h477_)
              have e590_ : g62 12 (5 * r9 + 2) = g62 12 (5 * g69 12 (5 * r73 + 1) + 2) := congrArg ((g62 12)) (la_assigned_69 h477_)
              have e591_ : g62 12 (5 * r9 + 3) = g62 12 (5 * g69 12 (5 * r73 + 1) + 3) := congrArg ((g62 12)) (la_assigned_70 h477_)
              have e592_ : g62 12 (5 * r9 + 4) = g62 12 (5 * g69 12 (5 * r73 + 1) + 4) := congrArg ((g62 12)) (la_assigned_71 h477_)
              have e593_ : g62 13 r9 = g62 13 (g69 12 (5 * r73 + 1)) := congrArg ((g62 13)) (la_assigned_66 h477_)
              have e594_ : g69 11 r9 = g69 11 (g69 12 (5 * r73 + 1)) := congrArg ((g69 11)) (la_assigned_66 h477_)
              have e595_ : g69 13 r9 = g69 13 (g69 12 (5 * r73 + 1)) := congrArg ((g69 13)) (la_assigned_66 h477_)
              exact (la_assigned_107 h173_ (sm_PX_at h485_ (g69 12 (5 * r73 + 1)) (la_assigned_29 (sm_ex_e h150_).1 h477_) (la_assigned_64 (sm_ex_e h150_).2.1 h463_ h477_)).1 (sm_PX_at h485_ r9 (sm_ex_e h150_).1 (la_assigned_63 (sm_ex_e h150_).2.1 h463_)).1 (sm_PX_at h499_ (g69 12 (5 * r73 + 1)) (la_assigned_29 (sm_ex_e h150_).1 h477_) (la_assigned_65 (sm_ex_e h150_).2.1 h477_)).1 (sm_PX_at h499_ r9 (sm_ex_e h150_).1 (sm_ex_e h150_).2.1).1 e570_ e594_)
            have h596_ := (h537_ h542_ (la_assigned_75 (sm_ex_e h150_).2.1 h463_ h473_ h477_) h569_ (sm_ex_eq h478_ (sm_ex_N (sm_ex_w h513_ (la_assigned_77 h126_) (la_assigned_78 h126_)) (la_assigned_79 h474_))) (la_assigned_80 h155_) (la_assigned_81 h155_))
            exact h596_
          refine ⟨(sm_PX_up_Ws (sm_PX_up_Lp (sm_PX_up_V (sm_PX_up_M (sm_PX_up_C (sm_PX_tr (sm_PX_tr (sm_PX_le h134_ (Int.le_refl _)) h499_ h116_) h485_ (la_assigned_45 h116_ h463_)) (la_assigned_82 h116_ h463_ h473_)) (la_assigned_82 h116_ h463_ h473_)) (la_assigned_82 h116_ h463_ h473_)) (la_assigned_82 h116_ h463_ h473_)) (la_assigned_82 h116_ h463_ h473_)), ?_⟩
          refine ⟨h518_, ?_⟩
          refine ⟨h526_, ?_⟩
          refine ⟨(sm_F1_tr (sm_F1_tr (sm_F1_le h137_ (Int.le_refl _)) h502_ h116_) h487_ (la_assigned_45 h116_ h463_)), ?_⟩
          refine ⟨(sm_F1_tr (sm_F1_tr (sm_F1_le h138_ (Int.le_refl _)) h503_ h116_) h491_ (la_assigned_45 h116_ h463_)), ?_⟩
          refine ⟨(sm_F1_tr (sm_F1_le h139_ (Int.le_refl _)) h504_ h113_), ?_⟩
          refine ⟨(sm_F1_tr (sm_F1_le h140_ (Int.le_refl _)) h505_ h113_), ?_⟩
          refine ⟨(sm_F1_tr (sm_F1_le h141_ (Int.le_refl _)) h506_ h113_), ?_⟩
          refine ⟨(sm_F1_tr (sm_F1_le h142_ (Int.le_refl _)) h507_ h113_), ?_⟩
          refine ⟨(sm_F1_tr (sm_F1_le h143_ (Int.le_refl _)) h508_ h113_), ?_⟩
          refine ⟨(sm_F1_tr (sm_F1_le h144_ (Int.le_refl _)) h509_ h113_), ?_⟩
          refine ⟨(sm_F1_tr (sm_F1_le h145_ (Int.le_refl _)) h510_ (la_assigned_83 h113_)), ?_⟩
          refine ⟨(sm_FN_cat (sm_FN_F h146_ (sm_F1_le h509_ (Int.le_refl _)) (Int.le_refl _)) (sm_FN_w h511_ (Int.le_refl _) (Int.le_refl _)) (Int.le_refl _) (Int.le_refl _)), ?_⟩
          exact h536_
        refine ⟨(la_assigned_84 h105_ h452_), ?_⟩
        refine ⟨(sm_KL_tr (sm_KL_le h106_ (Int.le_refl _)) (sm_KL_le h453_ (la_assigned_85 h109_)) (Int.le_refl _)), ?_⟩
        refine ⟨h454_, ?_⟩
        refine ⟨h455_, ?_⟩
        refine ⟨(la_assigned_84 h109_ h456_), ?_⟩
        refine ⟨(la_assigned_84 h110_ h457_), ?_⟩
        refine ⟨(la_assigned_84 h111_ h458_), ?_⟩
        refine ⟨(la_assigned_84 h112_ h459_), ?_⟩
        refine ⟨(la_assigned_45 h113_ h460_), ?_⟩
        refine ⟨h461_, ?_⟩
        refine ⟨h462_, ?_⟩
        refine ⟨(la_assigned_86 h116_ h463_ h474_), ?_⟩
        refine ⟨(la_assigned_87 h126_ h127_ h445_ h464_ h474_), ?_⟩
        refine ⟨(la_assigned_88 h126_ h127_ e152_ h155_ h464_ h465_ h474_), ?_⟩
        refine ⟨(la_assigned_89 (sm_ex_e h150_).1 (sm_ex_e h150_).2.1 h463_ h473_), ?_⟩
        refine ⟨?_, ?_⟩
        · skip
          have h597_ := (h483_ r73)
          have h598_ := ((sm_TK_go h6_ (S 1020 0) h4_ h5_) h149_)
          have h599_ := ((sm_TK_go h6_ (g5 1020 0) (la_assigned_21 h4_ h148_) h97_) (la_assigned_22 h165_))
          have h600_ := (h599_ (la_assigned_23 h165_))
          exact (la_assigned_90 (sm_TK_t h6_).2 h126_ h127_ h154_ h157_ h444_ h445_ h464_ h465_ h473_)
        refine ⟨?_, ?_⟩
        · skip
          intro h601_
          obtain ⟨h602_, h603_⟩ := (h464_ h601_)
          obtain ⟨h604_, ⟨h605_, ⟨h606_, ⟨h607_, ⟨h608_, ⟨h609_, ⟨h610_, ⟨h611_, ⟨h612_, ⟨h613_, ⟨h614_, ⟨h615_, ⟨h616_, ⟨h617_, h618_⟩⟩⟩⟩⟩⟩⟩⟩⟩⟩⟩⟩⟩⟩ := (h451_ h601_)
          obtain ⟨h619_, h620_⟩ := (h468_ h601_)
          obtain ⟨h621_, h622_⟩ := (h484_ h604_)
          have h623_ := (h488_ h607_)
          have h624_ := (h489_ h606_)
          have h625_ := (h492_ h618_)
          have h626_ := (h493_ h601_)
          have h627_ := (h494_ h601_)
          have h628_ := (h625_ la_assigned_100)
          have h629_ := (h626_ h623_)
          have h630_ := (h627_ h621_)
          have h631_ := (h628_ la_assigned_49)
          have h632_ := (h629_ h486_)
          have h633_ := (h630_ h622_)
          have h634_ := (h631_ la_assigned_50)
          have h635_ := (h633_ (la_assigned_51 h473_ (sm_ex_e h619_).1 (sm_ex_e h619_).2.1))
          have h636_ := (h634_ la_assigned_101)
          have h637_ := (h635_ (la_assigned_53 h473_ h474_))
          have h638_ := (h636_ la_assigned_54)
          have h639_ := (h637_ h481_)
          have h640_ := (h638_ la_assigned_102)
          have h641_ := (h639_ h475_)
          have h642_ := (h640_ la_assigned_56)
          have h643_ := (h641_ (la_assigned_103 h476_))
          refine ⟨(la_assigned_91 h148_ h620_), ?_⟩
          refine ⟨h149_, ?_⟩
          refine ⟨(sm_ex_if (la_assigned_51 h473_ (sm_ex_e h619_).1 (sm_ex_e h619_).2.1) (la_assigned_53 h473_ h474_) la_assigned_92 la_assigned_93 la_assigned_94), ?_⟩
          intro h644_
          have h645_ := (h644_.resolve_left (la_assigned_95 h475_))
          have h646_ := (h483_ r73)
          have e647_ : (if r73 = r73 then 17 * (20 - S 1023 0) + 17 else g62 1100002 r73 : Int) = 17 * (20 - S 1023 0) + 17 := if_pos la_assigned_96
          have h648_ := ((sm_TK_go h6_ (g5 1020 0) (la_assigned_21 h4_ h148_) h97_) (la_assigned_22 h165_))
          have h649_ := ((sm_TK_go h6_ (S 1020 0) h4_ h5_) h149_)
          have h650_ := (h643_ (sm_ex_eq h477_ (sm_ex_i (sm_ex_e h150_).1 (la_assigned_59 (sm_ex_e h150_).2.1 h463_ h474_) (la_assigned_72 (sm_ex_e h150_).2.2.1 (sm_PX_at h605_ r9 (sm_ex_e h150_).1 (sm_ex_e h150_).2.1).2.2.2.2.2.2.2.1) (la_assigned_73 h174_ (sm_PX_at h605_ r9 (sm_ex_e h150_).1 (sm_ex_e h150_).2.1).2.2.2.2.2.2.2.2.1) (la_assigned_74 (sm_ex_e h150_).2.2.2.2 (sm_PX_at h605_ r9 (sm_ex_e h150_).1 (sm_ex_e h150_).2.1).2.2.2.2.2.2.2.2.2.1))))
          have h651_ := (h648_ (la_assigned_23 h165_))
          have h652_ := (h650_ (la_assigned_75 (sm_ex_e h150_).2.1 h463_ h473_ h477_))
          have e653_ : g5 11 r9 = g5 11 (g69 12 (5 * r73 + 1)) := congrArg ((g5 11)) (la_assigned_66 h477_)
          have e654_ : g5 1100001 r9 = g5 1100001 (g69 12 (5 * r73 + 1)) := congrArg ((g5 1100001)) (la_assigned_66 h477_)
          have e655_ : g5 1100002 r9 = g5 1100002 (g69 12 (5 * r73 + 1)) := congrArg ((g5 1100002)) (la_assigned_66 h477_)
          have e656_ : g5 1100003 r9 = g5 1100003 (g69 12 (5 * r73 + 1)) := congrArg ((g5 1100003)) (la_assigned_66 h477_)
          have e657_ : g5 1100004 r9 = g5 1100004 (g69 12 (5 * r73 + 1)) := congrArg ((g5 1100004)) (la_assigned_66 h477_)
          have e658_ : g5 1100005 r9 = g5 1100005 (g69 12 (5 * r73 + 1)) := congrArg ((g5 1100005)) (la_assigned_66 h477_)
          have e659_ : g5 12 (5 * r9) = g5 12 (5 * g69 12 (5 * r73 + 1)) := congrArg ((g5 12)) (la_assigned_67 h477_)
          have e660_ : g5 12 (5 * r9 + 1) = g5 12 (5 * g69 12 (5 * r73 + 1) + 1) := congrArg ((g5 12)) (la_assigned_68 h477_)
          have e661_ : g5 12 (5 * r9 + 2) = g5 12 (5 * g69 12 (5 * r73 + 1) + 2) := congrArg ((g5 12)) (la_assigned_69 h477_)
          have e662_ : g5 12 (5 * r9 + 3) = g5 12 (5 * g69 12 (5 * r73 + 1) + 3) := congrArg ((g5 12)) (la_assigned_70 h477_)
          have e663_ : g5 12 (5 * r9 + 4) = g5 12 (5 * g69 12 (5 * r73 + 1) + 4) := congrArg ((g5 12)) (la_assigned_71 h477_)
          have e664_ : g5 13 r9 = g5 13 (g69 12 (5 * r73 + 1)) := congrArg ((g5 13)) (la_assigned_66 h477_)
          have e665_ : g62 11 r9 = g62 11 (g69 12 (5 * r73 + 1)) := congrArg ((g62 11)) (la_assigned_66 h477_)
          have e666_ : g62 1100001 r9 = g62 1100001 (g69 12 (5 * r73 + 1)) := congrArg ((g62 1100001)) (la_assigned_66 h477_)
          have e667_ : g62 1100002 r9 = g62 1100002 (g69 12 (5 * r73 + 1)) := congrArg ((g62 1100002)) (la_assigned_66 h477_)
          have e668_ : g62 1100003 r9 = g62 1100003 (g69 12 (5 * r73 + 1)) := congrArg ((g62 1100003)) (la_assigned_66 h477_)
          have e669_ : g62 1100004 r9 = g62 1100004 (g69 12 (5 * r73 + 1)) := congrArg ((g62 1100004)) (la_assigned_66 h477_)
          have e670_ : g62 1100005 r9 = g62 1100005 (g69 12 (5 * r73 + 1)) := congrArg ((g62 1100005)) (la_assigned_66 h477_)
          have e671_ : g62 12 (5 * r9) = g62 12 (5 * g69 12 (5 * r73 + 1)) := congrArg ((g62 12)) (la_assigned_67 h477_)
          have e672_ : g62 12 (5 * r9 + 1) = g62 12 (5 * g69 12 (5 * r73 + 1) + 1) := congrArg ((g62 12)) (la_assigned_68 h477_)
          have e673_ : g62 12 (5 * r9 + 2) = g62 12 (5 * g69 12 (5 * r73 + 1) + 2) := congrArg ((g62 12)) (la_assigned_69 h477_)
          have e674_ : g62 12 (5 * r9 + 3) = g62 12 (5 * g69 12 (5 * r73 + 1) + 3) := congrArg ((g62 12)) (la_assigned_70 h477_)
          have e675_ : g62 12 (5 * r9 + 4) = g62 12 (5 * g69 12 (5 * r73 + 1) + 4) := congrArg ((g62 12)) (la_assigned_71 h477_)
          have e676_ : g62 13 r9 = g62 13 (g69 12 (5 * r73 + 1)) := congrArg ((g62 13)) (la_assigned_66 h477_)
          have e677_ : g69 11 r9 = g69 11 (g69 12 (5 * r73 + 1)) := congrArg ((g69 11)) (la_assigned_66 h477_)
          have e678_ : g69 13 r9 = g69 13 (g69 12 (5 * r73 + 1)) := congrArg ((g69 13)) (la_assigned_66 h477_)
          exact ((la_assigned_97 h475_ h645_)).elim
        intro h679_
        refine ⟨?_, ?_⟩
        · skip
          have h680_ := (h483_ r73)
          have h681_ := ((sm_TK_go h6_ (S 1020 0) h4_ h5_) h149_)
          have h682_ := ((sm_TK_go h6_ (g5 1020 0) (la_assigned_21 h4_ h148_) h97_) (la_assigned_22 h165_))
          have h683_ := (h682_ (la_assigned_23 h165_))
          exact ((la_assigned_98 h125_ h679_)).elim
        have h684_ := (h483_ r73)
        have h685_ := ((sm_TK_go h6_ (S 1020 0) h4_ h5_) h149_)
        have h686_ := ((sm_TK_go h6_ (g5 1020 0) (la_assigned_21 h4_ h148_) h97_) (la_assigned_22 h165_))
        have h687_ := (h686_ (la_assigned_23 h165_))
        exact ((la_assigned_98 h125_ h679_)).elim
      intro h688_
      have h689_ := (h167_.resolve_right (la_assigned_108 h688_))
      refine ⟨(la_assigned_109 h4_ (sm_TK_t h6_).2 h97_ h98_ h148_), ?_⟩
      intro r94
      intro h690_
      intro g90
      rintro ⟨h691_, ⟨h692_, h693_⟩⟩
      refine ⟨h96_, ?_⟩
      refine ⟨h97_, ?_⟩
      refine ⟨(la_assigned_110 h692_), ?_⟩
      refine ⟨(la_assigned_44 h125_), ?_⟩
      refine ⟨h100_, ?_⟩
      refine ⟨h101_, ?_⟩
      refine ⟨h102_, ?_⟩
      refine ⟨h103_, ?_⟩
      refine ⟨?_, ?_⟩
      · skip
        intro h694_
        refine ⟨h133_, ?_⟩
        refine ⟨h134_, ?_⟩
        refine ⟨h135_, ?_⟩
        refine ⟨h136_, ?_⟩
        refine ⟨h137_, ?_⟩
        refine ⟨h138_, ?_⟩
        refine ⟨h139_, ?_⟩
        refine ⟨h140_, ?_⟩
        refine ⟨h141_, ?_⟩
        refine ⟨h142_, ?_⟩
        refine ⟨h143_, ?_⟩
        refine ⟨h144_, ?_⟩
        refine ⟨h145_, ?_⟩
        refine ⟨h146_, ?_⟩
        exact h147_
      refine ⟨h105_, ?_⟩
      refine ⟨h106_, ?_⟩
      refine ⟨h107_, ?_⟩
      refine ⟨h108_, ?_⟩
      refine ⟨h109_, ?_⟩
      refine ⟨h110_, ?_⟩
      refine ⟨h111_, ?_⟩
      refine ⟨h112_, ?_⟩
      refine ⟨h113_, ?_⟩
      refine ⟨h114_, ?_⟩
      refine ⟨h115_, ?_⟩
      refine ⟨h116_, ?_⟩
      refine ⟨(la_assigned_111 h126_ h692_), ?_⟩
      refine ⟨(la_assigned_112 h127_ e152_ h155_), ?_⟩
      refine ⟨la_assigned_113, ?_⟩
      refine ⟨la_assigned_114, ?_⟩
      refine ⟨?_, ?_⟩
      · skip
        intro h695_
        refine ⟨h148_, ?_⟩
        refine ⟨h149_, ?_⟩
        refine ⟨?_, ?_⟩
        · skip
          have h696_ := ((sm_TK_go h6_ (S 1020 0) h4_ h5_) h149_)
          have h697_ := ((sm_TK_go h6_ (g5 1020 0) (la_assigned_21 h4_ h148_) h97_) (la_assigned_22 h165_))
          have h698_ := (h697_ (la_assigned_23 h165_))
          exact ((la_assigned_115 h692_ h695_)).elim
        intro h699_
        have h700_ := ((sm_TK_go h6_ (S 1020 0) h4_ h5_) h149_)
        have h701_ := ((sm_TK_go h6_ (g5 1020 0) (la_assigned_21 h4_ h148_) h97_) (la_assigned_22 h165_))
        have h702_ := (h701_ (la_assigned_23 h165_))
        exact ((la_assigned_115 h692_ h695_)).elim
      intro h703_
      refine ⟨?_, ?_⟩
      · skip
        have h704_ := ((sm_TK_go h6_ (S 1020 0) h4_ h5_) h149_)
        have h705_ := ((sm_TK_go h6_ (g5 1020 0) (la_assigned_21 h4_ h148_) h97_) (la_assigned_22 h165_))
        have h706_ := (h705_ (la_assigned_23 h165_))
        exact ((la_assigned_98 h125_ h703_)).elim
      have h707_ := ((sm_TK_go h6_ (S 1020 0) h4_ h5_) h149_)
      have h708_ := ((sm_TK_go h6_ (g5 1020 0) (la_assigned_21 h4_ h148_) h97_) (la_assigned_22 h165_))
      have h709_ := (h708_ (la_assigned_23 h165_))
      exact ((la_assigned_98 h125_ h703_)).elim
    intro h710_
    have h711_ := (h162_.resolve_right (la_assigned_116 h710_))
    refine ⟨h96_, ?_⟩
    refine ⟨h97_, ?_⟩
    refine ⟨h98_, ?_⟩
    refine ⟨h99_, ?_⟩
    refine ⟨h100_, ?_⟩
    refine ⟨h101_, ?_⟩
    refine ⟨h102_, ?_⟩
    refine ⟨h103_, ?_⟩
    refine ⟨h104_, ?_⟩
    refine ⟨h105_, ?_⟩
    refine ⟨h106_, ?_⟩
    refine ⟨h107_, ?_⟩
    refine ⟨h108_, ?_⟩
    refine ⟨h109_, ?_⟩
    refine ⟨h110_, ?_⟩
    refine ⟨h111_, ?_⟩
    refine ⟨h112_, ?_⟩
    refine ⟨h113_, ?_⟩
    refine ⟨h114_, ?_⟩
    refine ⟨h115_, ?_⟩
    refine ⟨h116_, ?_⟩
    refine ⟨h117_, ?_⟩
    refine ⟨(la_assigned_117 h124_), ?_⟩
    refine ⟨h119_, ?_⟩
    refine ⟨h120_, ?_⟩
    refine ⟨h121_, ?_⟩
    intro h712_
    refine ⟨?_, ?_⟩
    · skip
      have h713_ := ((sm_TK_go h6_ (S 1020 0) h4_ h5_) h149_)
      exact ((la_assigned_98 h125_ h712_)).elim
    have h714_ := ((sm_TK_go h6_ (S 1020 0) h4_ h5_) h149_)
    exact ((la_assigned_98 h125_ h712_)).elim
  intro h715_
  have h716_ := (h118_ (la_assigned_119 h715_))
  refine ⟨h96_, ?_⟩
  refine ⟨h97_, ?_⟩
  refine ⟨h98_, ?_⟩
  refine ⟨h99_, ?_⟩
  refine ⟨h100_, ?_⟩
  refine ⟨h101_, ?_⟩
  refine ⟨h102_, ?_⟩
  refine ⟨h103_, ?_⟩
  refine ⟨h104_, ?_⟩
  refine ⟨h105_, ?_⟩
  refine ⟨h106_, ?_⟩
  refine ⟨h107_, ?_⟩
  refine ⟨h108_, ?_⟩
  refine ⟨h109_, ?_⟩
  refine ⟨h110_, ?_⟩
  refine ⟨h111_, ?_⟩
  refine ⟨h112_, ?_⟩
  refine ⟨h113_, ?_⟩
  refine ⟨h114_, ?_⟩
  refine ⟨h115_, ?_⟩
  refine ⟨h116_, ?_⟩
  refine ⟨h117_, ?_⟩
  refine ⟨?_, ?_⟩
  · skip
    intro h717_
    by_cases c718_ : S 1021 0 = 0
    · skip
      have e719_ : (if 0 < S 1021 0 then 12 else 30 * (20 - S 1023 0) + 25 : Int) = 30 * (20 - S 1023 0) + 25 := if_neg (la_assigned_47 c718_)
      have e720_ : (if 0 < S 1021 0 then 11 else 30 * (20 - S 1023 0) + 24 : Int) = 30 * (20 - S 1023 0) + 24 := if_neg (la_assigned_47 c718_)
      obtain ⟨h721_, ⟨h722_, ⟨h723_, ⟨h724_, ⟨h725_, h726_⟩⟩⟩⟩⟩ := (h29_ c718_)
      obtain ⟨h727_, ⟨h728_, ⟨h729_, ⟨h730_, h731_⟩⟩⟩⟩ := (h13_ c718_)
      exact (la_assigned_120 h716_ e719_ e720_)
    · skip
      have e732_ : (if 0 < S 1021 0 then 12 else 30 * (20 - S 1023 0) + 25 : Int) = 12 := if_pos (la_assigned_16 h7_ c718_)
      have e733_ : (if 0 < S 1021 0 then 11 else 30 * (20 - S 1023 0) + 24 : Int) = 11 := if_pos (la_assigned_16 h7_ c718_)
      have h734_ := (h99_ (la_assigned_16 h7_ c718_))
      obtain ⟨h735_, h736_⟩ := (h122_ (la_assigned_16 h7_ c718_))
      exact (la_assigned_121 e732_ h735_ h736_)
  refine ⟨la_assigned_113, ?_⟩
  refine ⟨la_assigned_114, ?_⟩
  refine ⟨?_, ?_⟩
  · skip
    intro h737_
    have e738_ : (if 0 < S 1021 0 then 12 else 30 * (20 - S 1023 0) + 25 : Int) = 12 := if_pos (la_assigned_122 h715_ h737_)
    have e739_ : (if 0 < S 1021 0 then 11 else 30 * (20 - S 1023 0) + 24 : Int) = 11 := if_pos (la_assigned_122 h715_ h737_)
    obtain ⟨h740_, ⟨h741_, ⟨h742_, ⟨h743_, ⟨h744_, h745_⟩⟩⟩⟩⟩ := (h29_ (la_assigned_123 h7_ h715_ h737_))
    have h746_ := (h99_ (la_assigned_122 h715_ h737_))
    refine ⟨?_, ?_⟩
    · skip
      exact ((la_assigned_124 h737_ h746_)).elim
    refine ⟨?_, ?_⟩
    · skip
      exact ((la_assigned_124 h737_ h746_)).elim
    refine ⟨?_, ?_⟩
    · skip
      exact ((la_assigned_124 h737_ h746_)).elim
    intro h747_
    exact ((la_assigned_124 h737_ h746_)).elim
  intro h748_
  have e749_ : (if 0 < S 1021 0 then 12 else 30 * (20 - S 1023 0) + 25 : Int) = 12 := if_pos h748_
  have e750_ : (if 0 < S 1021 0 then 11 else 30 * (20 - S 1023 0) + 24 : Int) = 11 := if_pos h748_
  have h751_ := (h99_ h748_)
  obtain ⟨h752_, h753_⟩ := (h122_ h748_)
  refine ⟨h752_, ?_⟩
  exact h753_
set_option maxRecDepth 8000 in
set_option maxHeartbeats 2000000 in
theorem s_assigned (d : Int) (h0 : 0 ≤ d) (IH : ∀ d' : Int, 0 ≤ d' → d' < d → P_P d') : T_assigned d := by
  intro p1 S hok hp1 hpre hd
  have h := f_assigned d p1 S hok hp1 hpre hd
  have hM := sm_h47
  show sv_T sm_XS sm_cs sm_L sm_sh ((if 0 < (S 1021 0) then 12 else 30 * (20 - (S 1023 0)) + 25)).toNat (q_assigned p1 S) 47 0 [(0, .ref 0), (1, sv_I p1)] [] S
  refine sv_aload_n hM dX12_assigned_0 rfl rfl ?_
  refine sv_iload_n hM dX12_assigned_1 rfl rfl ?_
  obtain ⟨o1, h⟩ := h
  obtain ⟨o2, h⟩ := h
  obtain ⟨o3, h⟩ := h
  obtain ⟨o4, h⟩ := h
  refine sv_callV hM dX12_assigned_2 sm_iv_457 (by decide) (sm_a0 _) rfl rfl (Nat.le_of_ble_eq_true rfl) sm_h48 (Nat.le_of_ble_eq_true rfl) (Nat.le_of_ble_eq_true rfl) (F' := (((if 0 < (S 1021 0) then 11 else 30 * (20 - (S 1023 0)) + 24))).toNat) (sv_Fe o4) rfl ((IH ((if 0 < (S 1021 0) then 11 else 30 * (20 - (S 1023 0)) + 24)) o3.1 o3.2).2.2.2.1 p1 S hok o1 o2 rfl) (fun v S1 hq => ?_)
  obtain ⟨r9, rfl, hr9, ok6, md7, hpo8⟩ := hq
  obtain ⟨g5, rfl⟩ : ∃ g, S1 = sv_sts S [1020, 1021, 1022, 1023, 5, 1011, 3, 4, 1007, 1009, 11, 12, 13, 14, 1024, 15, 16, 1031, 1032, 17, 18, 19, 20, 21, 22, 23, 24, 25, 1042, 1043, 1044, 1045, 1100001, 1100002, 1100005, 1100003, 1100004, 1100018, 1100019, 1100016, 1100035, 1100036] g := ⟨_, md7.eq⟩
  show sv_T sm_XS sm_cs sm_L sm_sh ((if 0 < (S 1021 0) then 12 else 30 * (20 - (S 1023 0)) + 25)).toNat (q_assigned p1 S) 47 5 [(0, .ref 0), (1, sv_I p1)] [sv_I r9] (sv_sts S [1020, 1021, 1022, 1023, 5, 1011, 3, 4, 1007, 1009, 11, 12, 13, 14, 1024, 15, 16, 1031, 1032, 17, 18, 19, 20, 21, 22, 23, 24, 25, 1042, 1043, 1044, 1045, 1100001, 1100002, 1100005, 1100003, 1100004, 1100018, 1100019, 1100016, 1100035, 1100036] g5)
  have md10 : sv_mod [1020, 1021, 1022, 1023, 5, 1011, 3, 4, 1007, 1009, 11, 12, 13, 14, 1024, 15, 16, 1031, 1032, 17, 18, 19, 20, 21, 22, 23, 24, 25, 1042, 1043, 1044, 1045, 1100001, 1100002, 1100005, 1100003, 1100004, 1100018, 1100019, 1100016, 1100035, 1100036] S (sv_sts S [1020, 1021, 1022, 1023, 5, 1011, 3, 4, 1007, 1009, 11, 12, 13, 14, 1024, 15, 16, 1031, 1032, 17, 18, 19, 20, 21, 22, 23, 24, 25, 1042, 1043, 1044, 1045, 1100001, 1100002, 1100005, 1100003, 1100004, 1100018, 1100019, 1100016, 1100035, 1100036] g5) := sv_mod.sts sv_mod.rf (by decide)
  have h := h r9 hr9 g5 hpo8
  refine sv_istore_n hM dX12_assigned_5 (by decide) rfl ?_
  show sv_T sm_XS sm_cs sm_L sm_sh ((if 0 < (S 1021 0) then 12 else 30 * (20 - (S 1023 0)) + 25)).toNat (q_assigned p1 S) 47 6 [(0, .ref 0), (1, sv_I p1), (2, sv_I r9)] [] (sv_sts S [1020, 1021, 1022, 1023, 5, 1011, 3, 4, 1007, 1009, 11, 12, 13, 14, 1024, 15, 16, 1031, 1032, 17, 18, 19, 20, 21, 22, 23, 24, 25, 1042, 1043, 1044, 1045, 1100001, 1100002, 1100005, 1100003, 1100004, 1100018, 1100019, 1100016, 1100035, 1100036] g5)
  refine sv_aload_n hM dX12_assigned_6 rfl rfl ?_
  have k11 : sv_R (g5 1021 0) := sm_okI ok6 sm_r1021 0
  have h := h k11
  refine sv_getI hM dX12_assigned_7 sm_fl_389 (sm_a0 _) sm_k21 rfl (x := (g5 1021 0)) rfl ?_
  refine sv_cond_le hM dX12_assigned_10 k11 (t := 15) rfl rfl (fun hc => ?_) (fun hc => ?_)
  · have h := h.1 (hc)
    refine sv_aload_n hM dX12_assigned_15 rfl rfl ?_
    obtain ⟨o12, h⟩ := h
    obtain ⟨o13, h⟩ := h
    refine sv_callV hM dX12_assigned_16 sm_iv_460 (by decide) (sm_a0 _) rfl rfl (Nat.le_of_ble_eq_true rfl) sm_h45 (Nat.le_of_ble_eq_true rfl) (Nat.le_of_ble_eq_true rfl) (F' := 0) (sv_Fn (n := 0) o13) rfl (t_settingOf  (sv_sts S [1020, 1021, 1022, 1023, 5, 1011, 3, 4, 1007, 1009, 11, 12, 13, 14, 1024, 15, 16, 1031, 1032, 17, 18, 19, 20, 21, 22, 23, 24, 25, 1042, 1043, 1044, 1045, 1100001, 1100002, 1100005, 1100003, 1100004, 1100018, 1100019, 1100016, 1100035, 1100036] g5) ok6 o12) (fun v S1 hq => ?_)
    obtain ⟨r18, rfl, hr18, ok15, md16, hpo17⟩ := hq
    obtain rfl : (sv_sts S [1020, 1021, 1022, 1023, 5, 1011, 3, 4, 1007, 1009, 11, 12, 13, 14, 1024, 15, 16, 1031, 1032, 17, 18, 19, 20, 21, 22, 23, 24, 25, 1042, 1043, 1044, 1045, 1100001, 1100002, 1100005, 1100003, 1100004, 1100018, 1100019, 1100016, 1100035, 1100036] g5) = S1 := (funext fun j => md16 j (by intro q; cases q)).symm
    show sv_T sm_XS sm_cs sm_L sm_sh ((if 0 < (S 1021 0) then 12 else 30 * (20 - (S 1023 0)) + 25)).toNat (q_assigned p1 S) 47 19 [(0, .ref 0), (1, sv_I p1), (2, sv_I r9)] [sv_I r18] (sv_sts S [1020, 1021, 1022, 1023, 5, 1011, 3, 4, 1007, 1009, 11, 12, 13, 14, 1024, 15, 16, 1031, 1032, 17, 18, 19, 20, 21, 22, 23, 24, 25, 1042, 1043, 1044, 1045, 1100001, 1100002, 1100005, 1100003, 1100004, 1100018, 1100019, 1100016, 1100035, 1100036] g5)
    have h := h r18 hr18 hpo17
    refine sv_istore_n hM dX12_assigned_19 (by decide) rfl ?_
    show sv_T sm_XS sm_cs sm_L sm_sh ((if 0 < (S 1021 0) then 12 else 30 * (20 - (S 1023 0)) + 25)).toNat (q_assigned p1 S) 47 20 [(0, .ref 0), (1, sv_I p1), (2, sv_I r9), (3, sv_I r18)] [] (sv_sts S [1020, 1021, 1022, 1023, 5, 1011, 3, 4, 1007, 1009, 11, 12, 13, 14, 1024, 15, 16, 1031, 1032, 17, 18, 19, 20, 21, 22, 23, 24, 25, 1042, 1043, 1044, 1045, 1100001, 1100002, 1100005, 1100003, 1100004, 1100018, 1100019, 1100016, 1100035, 1100036] g5)
    refine sv_iload_n hM dX12_assigned_20 rfl rfl ?_
    refine sv_iconst (d := (-1 : Int)) hM dX12_assigned_21 rfl rfl ?_
    refine sv_icmp_ne hM dX12_assigned_22 hr18 (⟨by decide, by decide⟩ : sv_R (-1 : Int)) (t := 27) rfl rfl (fun hc => ?_) (fun hc => ?_)
    · have h := h.1 (hc)
      refine sv_aload_n hM dX12_assigned_27 rfl rfl ?_
      refine sv_iload_n hM dX12_assigned_28 rfl rfl ?_
      obtain ⟨o19, h⟩ := h
      refine sv_callV hM dX12_assigned_29 sm_iv_463 (by decide) (sm_a0 _) rfl rfl (Nat.le_of_ble_eq_true rfl) sm_h44 (Nat.le_of_ble_eq_true rfl) (Nat.le_of_ble_eq_true rfl) (F' := 0) (sv_Fn (n := 0) o13) rfl (t_isTarget r9 (sv_sts S [1020, 1021, 1022, 1023, 5, 1011, 3, 4, 1007, 1009, 11, 12, 13, 14, 1024, 15, 16, 1031, 1032, 17, 18, 19, 20, 21, 22, 23, 24, 25, 1042, 1043, 1044, 1045, 1100001, 1100002, 1100005, 1100003, 1100004, 1100018, 1100019, 1100016, 1100035, 1100036] g5) ok15 hr9 o19) (fun v S1 hq => ?_)
      obtain ⟨r24, rfl, hr24, ok21, md22, hpo23⟩ := hq
      obtain rfl : (sv_sts S [1020, 1021, 1022, 1023, 5, 1011, 3, 4, 1007, 1009, 11, 12, 13, 14, 1024, 15, 16, 1031, 1032, 17, 18, 19, 20, 21, 22, 23, 24, 25, 1042, 1043, 1044, 1045, 1100001, 1100002, 1100005, 1100003, 1100004, 1100018, 1100019, 1100016, 1100035, 1100036] g5) = S1 := (funext fun j => md22 j (by intro q; cases q)).symm
      show sv_T sm_XS sm_cs sm_L sm_sh ((if 0 < (S 1021 0) then 12 else 30 * (20 - (S 1023 0)) + 25)).toNat (q_assigned p1 S) 47 32 [(0, .ref 0), (1, sv_I p1), (2, sv_I r9), (3, sv_I r18)] [sv_I r24] (sv_sts S [1020, 1021, 1022, 1023, 5, 1011, 3, 4, 1007, 1009, 11, 12, 13, 14, 1024, 15, 16, 1031, 1032, 17, 18, 19, 20, 21, 22, 23, 24, 25, 1042, 1043, 1044, 1045, 1100001, 1100002, 1100005, 1100003, 1100004, 1100018, 1100019, 1100016, 1100035, 1100036] g5)
      have h := h r24 hr24 hpo23
      refine sv_cond_ne hM dX12_assigned_32 hr24 (t := 43) rfl rfl (fun hc => ?_) (fun hc => ?_)
      · have h := h.1 (hc)
        refine sv_aload_n hM dX12_assigned_43 rfl rfl ?_
        refine sv_dupA hM dX12_assigned_44 rfl ?_
        have k25 : sv_R (g5 1020 0) := sm_okI ok21 sm_r1020 0
        have h := h k25
        refine sv_getI hM dX12_assigned_45 sm_fl_392 (sm_a0 _) sm_k20 rfl (x := (g5 1020 0)) rfl ?_
        refine sv_iconst (d := (1 : Int)) hM dX12_assigned_48 rfl rfl ?_
        refine sv_iadd hM dX12_assigned_49 rfl ?_
        obtain ⟨o26, h⟩ := h
        refine sv_putI sm_X hM dX12_assigned_50 sm_fp_392 (sm_a0 _) sm_q20 (Or.inl rfl) rfl rfl rfl rfl ?_
        have ok27 : sm_ok (sv_up (sv_sts S [1020, 1021, 1022, 1023, 5, 1011, 3, 4, 1007, 1009, 11, 12, 13, 14, 1024, 15, 16, 1031, 1032, 17, 18, 19, 20, 21, 22, 23, 24, 25, 1042, 1043, 1044, 1045, 1100001, 1100002, 1100005, 1100003, 1100004, 1100018, 1100019, 1100016, 1100035, 1100036] g5) 1020 0 ((g5 1020 0) + (1 : Int))) := sm_upI ok21 sm_r1020 o26
        have md28 : sv_mod [1020, 1021, 1022, 1023, 5, 1011, 3, 4, 1007, 1009, 11, 12, 13, 14, 1024, 15, 16, 1031, 1032, 17, 18, 19, 20, 21, 22, 23, 24, 25, 1042, 1043, 1044, 1045, 1100001, 1100002, 1100005, 1100003, 1100004, 1100018, 1100019, 1100016, 1100035, 1100036] S (sv_up (sv_sts S [1020, 1021, 1022, 1023, 5, 1011, 3, 4, 1007, 1009, 11, 12, 13, 14, 1024, 15, 16, 1031, 1032, 17, 18, 19, 20, 21, 22, 23, 24, 25, 1042, 1043, 1044, 1045, 1100001, 1100002, 1100005, 1100003, 1100004, 1100018, 1100019, 1100016, 1100035, 1100036] g5) 1020 0 ((g5 1020 0) + (1 : Int))) := sv_mod.up md10 (by decide)
        refine sv_aload_n hM dX12_assigned_53 rfl rfl ?_
        refine sv_bipush (d := (15 : Int)) hM dX12_assigned_54 rfl rfl ?_
        refine sv_iload_n hM dX12_assigned_56 rfl rfl ?_
        refine sv_bipush (d := (99 : Int)) hM dX12_assigned_57 rfl rfl ?_
        refine sv_icmp_ne hM dX12_assigned_59 hr18 (⟨by decide, by decide⟩ : sv_R (99 : Int)) (t := 66) rfl rfl (fun hc => ?_) (fun hc => ?_)
        · have h := h.1 (hc)
          refine sv_iload_n hM dX12_assigned_66 rfl rfl ?_
          refine sv_iload_n hM dX12_assigned_67 rfl rfl ?_
          refine sv_aload_n hM dX12_assigned_68 rfl rfl ?_
          refine sv_iload_n hM dX12_assigned_69 rfl rfl ?_
          obtain ⟨o29, h⟩ := h
          obtain ⟨o30, h⟩ := h
          obtain ⟨o31, h⟩ := h
          refine sv_callV hM dX12_assigned_70 sm_iv_466 (by decide) (sm_a0 _) rfl rfl (Nat.le_of_ble_eq_true rfl) sm_h46 (Nat.le_of_ble_eq_true rfl) (Nat.le_of_ble_eq_true rfl) (F' := ((30 * (20 - (g5 1023 0)) + 14)).toNat) (sv_Fe o31) rfl ((IH (30 * (20 - (g5 1023 0)) + 14) o30.1 o30.2).2.1 p1 (sv_up (sv_sts S [1020, 1021, 1022, 1023, 5, 1011, 3, 4, 1007, 1009, 11, 12, 13, 14, 1024, 15, 16, 1031, 1032, 17, 18, 19, 20, 21, 22, 23, 24, 25, 1042, 1043, 1044, 1045, 1100001, 1100002, 1100005, 1100003, 1100004, 1100018, 1100019, 1100016, 1100035, 1100036] g5) 1020 0 ((g5 1020 0) + (1 : Int))) ok27 o1 o29 rfl) (fun v S1 hq => ?_)
          obtain ⟨r36, rfl, hr36, ok33, md34, hpo35⟩ := hq
          obtain ⟨g32, rfl⟩ : ∃ g, S1 = sv_sts (sv_up (sv_sts S [1020, 1021, 1022, 1023, 5, 1011, 3, 4, 1007, 1009, 11, 12, 13, 14, 1024, 15, 16, 1031, 1032, 17, 18, 19, 20, 21, 22, 23, 24, 25, 1042, 1043, 1044, 1045, 1100001, 1100002, 1100005, 1100003, 1100004, 1100018, 1100019, 1100016, 1100035, 1100036] g5) 1020 0 ((g5 1020 0) + (1 : Int))) [1020, 1021, 1022, 1023, 5, 1011, 3, 4, 1007, 1009, 11, 12, 13, 14, 1024, 15, 16, 1031, 1032, 17, 18, 19, 20, 21, 22, 23, 24, 25, 1042, 1043, 1044, 1045, 1100001, 1100002, 1100005, 1100003, 1100004, 1100018, 1100019, 1100016, 1100035, 1100036] g := ⟨_, md34.eq⟩
          show sv_T sm_XS sm_cs sm_L sm_sh ((if 0 < (S 1021 0) then 12 else 30 * (20 - (S 1023 0)) + 25)).toNat (q_assigned p1 S) 47 73 [(0, .ref 0), (1, sv_I p1), (2, sv_I r9), (3, sv_I r18)] [sv_I r36, sv_I r9, sv_I r18, sv_I (15 : Int), .ref 0] (sv_sts (sv_up (sv_sts S [1020, 1021, 1022, 1023, 5, 1011, 3, 4, 1007, 1009, 11, 12, 13, 14, 1024, 15, 16, 1031, 1032, 17, 18, 19, 20, 21, 22, 23, 24, 25, 1042, 1043, 1044, 1045, 1100001, 1100002, 1100005, 1100003, 1100004, 1100018, 1100019, 1100016, 1100035, 1100036] g5) 1020 0 ((g5 1020 0) + (1 : Int))) [1020, 1021, 1022, 1023, 5, 1011, 3, 4, 1007, 1009, 11, 12, 13, 14, 1024, 15, 16, 1031, 1032, 17, 18, 19, 20, 21, 22, 23, 24, 25, 1042, 1043, 1044, 1045, 1100001, 1100002, 1100005, 1100003, 1100004, 1100018, 1100019, 1100016, 1100035, 1100036] g32)
          have md37 : sv_mod [1020, 1021, 1022, 1023, 5, 1011, 3, 4, 1007, 1009, 11, 12, 13, 14, 1024, 15, 16, 1031, 1032, 17, 18, 19, 20, 21, 22, 23, 24, 25, 1042, 1043, 1044, 1045, 1100001, 1100002, 1100005, 1100003, 1100004, 1100018, 1100019, 1100016, 1100035, 1100036] S (sv_sts (sv_up (sv_sts S [1020, 1021, 1022, 1023, 5, 1011, 3, 4, 1007, 1009, 11, 12, 13, 14, 1024, 15, 16, 1031, 1032, 17, 18, 19, 20, 21, 22, 23, 24, 25, 1042, 1043, 1044, 1045, 1100001, 1100002, 1100005, 1100003, 1100004, 1100018, 1100019, 1100016, 1100035, 1100036] g5) 1020 0 ((g5 1020 0) + (1 : Int))) [1020, 1021, 1022, 1023, 5, 1011, 3, 4, 1007, 1009, 11, 12, 13, 14, 1024, 15, 16, 1031, 1032, 17, 18, 19, 20, 21, 22, 23, 24, 25, 1042, 1043, 1044, 1045, 1100001, 1100002, 1100005, 1100003, 1100004, 1100018, 1100019, 1100016, 1100035, 1100036] g32) := sv_mod.sts md28 (by decide)
          have h := h r36 hr36 g32 hpo35
          obtain ⟨o38, h⟩ := h
          refine sv_callV hM dX12_assigned_73 sm_iv_446 (by decide) (sm_a0 _) rfl rfl (Nat.le_of_ble_eq_true rfl) sm_h33 (Nat.le_of_ble_eq_true rfl) (Nat.le_of_ble_eq_true rfl) (F' := 0) (sv_Fn (n := 0) o13) rfl (t_nodeR (15 : Int) r18 r9 r36 (sv_sts (sv_up (sv_sts S [1020, 1021, 1022, 1023, 5, 1011, 3, 4, 1007, 1009, 11, 12, 13, 14, 1024, 15, 16, 1031, 1032, 17, 18, 19, 20, 21, 22, 23, 24, 25, 1042, 1043, 1044, 1045, 1100001, 1100002, 1100005, 1100003, 1100004, 1100018, 1100019, 1100016, 1100035, 1100036] g5) 1020 0 ((g5 1020 0) + (1 : Int))) [1020, 1021, 1022, 1023, 5, 1011, 3, 4, 1007, 1009, 11, 12, 13, 14, 1024, 15, 16, 1031, 1032, 17, 18, 19, 20, 21, 22, 23, 24, 25, 1042, 1043, 1044, 1045, 1100001, 1100002, 1100005, 1100003, 1100004, 1100018, 1100019, 1100016, 1100035, 1100036] g32) ok33 (⟨by decide, by decide⟩ : sv_R (15 : Int)) hr18 hr9 hr36 o38) (fun v S1 hq => ?_)
          obtain ⟨r43, rfl, hr43, ok40, md41, hpo42⟩ := hq
          obtain ⟨g39, rfl⟩ : ∃ g, S1 = sv_sts (sv_sts (sv_up (sv_sts S [1020, 1021, 1022, 1023, 5, 1011, 3, 4, 1007, 1009, 11, 12, 13, 14, 1024, 15, 16, 1031, 1032, 17, 18, 19, 20, 21, 22, 23, 24, 25, 1042, 1043, 1044, 1045, 1100001, 1100002, 1100005, 1100003, 1100004, 1100018, 1100019, 1100016, 1100035, 1100036] g5) 1020 0 ((g5 1020 0) + (1 : Int))) [1020, 1021, 1022, 1023, 5, 1011, 3, 4, 1007, 1009, 11, 12, 13, 14, 1024, 15, 16, 1031, 1032, 17, 18, 19, 20, 21, 22, 23, 24, 25, 1042, 1043, 1044, 1045, 1100001, 1100002, 1100005, 1100003, 1100004, 1100018, 1100019, 1100016, 1100035, 1100036] g32) [1024, 11, 12, 13, 14, 1100019, 1100035] g := ⟨_, md41.eq⟩
          show sv_T sm_XS sm_cs sm_L sm_sh ((if 0 < (S 1021 0) then 12 else 30 * (20 - (S 1023 0)) + 25)).toNat (q_assigned p1 S) 47 76 [(0, .ref 0), (1, sv_I p1), (2, sv_I r9), (3, sv_I r18)] [sv_I r43] (sv_sts (sv_sts (sv_up (sv_sts S [1020, 1021, 1022, 1023, 5, 1011, 3, 4, 1007, 1009, 11, 12, 13, 14, 1024, 15, 16, 1031, 1032, 17, 18, 19, 20, 21, 22, 23, 24, 25, 1042, 1043, 1044, 1045, 1100001, 1100002, 1100005, 1100003, 1100004, 1100018, 1100019, 1100016, 1100035, 1100036] g5) 1020 0 ((g5 1020 0) + (1 : Int))) [1020, 1021, 1022, 1023, 5, 1011, 3, 4, 1007, 1009, 11, 12, 13, 14, 1024, 15, 16, 1031, 1032, 17, 18, 19, 20, 21, 22, 23, 24, 25, 1042, 1043, 1044, 1045, 1100001, 1100002, 1100005, 1100003, 1100004, 1100018, 1100019, 1100016, 1100035, 1100036] g32) [1024, 11, 12, 13, 14, 1100019, 1100035] g39)
          have md44 : sv_mod [1020, 1021, 1022, 1023, 5, 1011, 3, 4, 1007, 1009, 11, 12, 13, 14, 1024, 15, 16, 1031, 1032, 17, 18, 19, 20, 21, 22, 23, 24, 25, 1042, 1043, 1044, 1045, 1100001, 1100002, 1100005, 1100003, 1100004, 1100018, 1100019, 1100016, 1100035, 1100036] S (sv_sts (sv_sts (sv_up (sv_sts S [1020, 1021, 1022, 1023, 5, 1011, 3, 4, 1007, 1009, 11, 12, 13, 14, 1024, 15, 16, 1031, 1032, 17, 18, 19, 20, 21, 22, 23, 24, 25, 1042, 1043, 1044, 1045, 1100001, 1100002, 1100005, 1100003, 1100004, 1100018, 1100019, 1100016, 1100035, 1100036] g5) 1020 0 ((g5 1020 0) + (1 : Int))) [1020, 1021, 1022, 1023, 5, 1011, 3, 4, 1007, 1009, 11, 12, 13, 14, 1024, 15, 16, 1031, 1032, 17, 18, 19, 20, 21, 22, 23, 24, 25, 1042, 1043, 1044, 1045, 1100001, 1100002, 1100005, 1100003, 1100004, 1100018, 1100019, 1100016, 1100035, 1100036] g32) [1024, 11, 12, 13, 14, 1100019, 1100035] g39) := sv_mod.sts md37 (by decide)
          have h := h r43 hr43 g39 hpo42
          refine sv_ghost sm_X 1100001 r43 (1 : Int) (by decide) ?_
          have ok45 : sm_ok (sv_up (sv_sts (sv_sts (sv_up (sv_sts S [1020, 1021, 1022, 1023, 5, 1011, 3, 4, 1007, 1009, 11, 12, 13, 14, 1024, 15, 16, 1031, 1032, 17, 18, 19, 20, 21, 22, 23, 24, 25, 1042, 1043, 1044, 1045, 1100001, 1100002, 1100005, 1100003, 1100004, 1100018, 1100019, 1100016, 1100035, 1100036] g5) 1020 0 ((g5 1020 0) + (1 : Int))) [1020, 1021, 1022, 1023, 5, 1011, 3, 4, 1007, 1009, 11, 12, 13, 14, 1024, 15, 16, 1031, 1032, 17, 18, 19, 20, 21, 22, 23, 24, 25, 1042, 1043, 1044, 1045, 1100001, 1100002, 1100005, 1100003, 1100004, 1100018, 1100019, 1100016, 1100035, 1100036] g32) [1024, 11, 12, 13, 14, 1100019, 1100035] g39) 1100001 r43 (1 : Int)) := sm_upI ok40 sm_r1100001 (⟨by decide, by decide⟩ : sv_R (1 : Int))
          have md46 : sv_mod [1020, 1021, 1022, 1023, 5, 1011, 3, 4, 1007, 1009, 11, 12, 13, 14, 1024, 15, 16, 1031, 1032, 17, 18, 19, 20, 21, 22, 23, 24, 25, 1042, 1043, 1044, 1045, 1100001, 1100002, 1100005, 1100003, 1100004, 1100018, 1100019, 1100016, 1100035, 1100036] S (sv_up (sv_sts (sv_sts (sv_up (sv_sts S [1020, 1021, 1022, 1023, 5, 1011, 3, 4, 1007, 1009, 11, 12, 13, 14, 1024, 15, 16, 1031, 1032, 17, 18, 19, 20, 21, 22, 23, 24, 25, 1042, 1043, 1044, 1045, 1100001, 1100002, 1100005, 1100003, 1100004, 1100018, 1100019, 1100016, 1100035, 1100036] g5) 1020 0 ((g5 1020 0) + (1 : Int))) [1020, 1021, 1022, 1023, 5, 1011, 3, 4, 1007, 1009, 11, 12, 13, 14, 1024, 15, 16, 1031, 1032, 17, 18, 19, 20, 21, 22, 23, 24, 25, 1042, 1043, 1044, 1045, 1100001, 1100002, 1100005, 1100003, 1100004, 1100018, 1100019, 1100016, 1100035, 1100036] g32) [1024, 11, 12, 13, 14, 1100019, 1100035] g39) 1100001 r43 (1 : Int)) := sv_mod.up md44 (by decide)
          obtain ⟨o47, h⟩ := h
          refine sv_ghost sm_X 1100002 r43 ((17 * (20 - (S 1023 0)) + 17)) (by decide) ?_
          have ok48 : sm_ok (sv_up (sv_up (sv_sts (sv_sts (sv_up (sv_sts S [1020, 1021, 1022, 1023, 5, 1011, 3, 4, 1007, 1009, 11, 12, 13, 14, 1024, 15, 16, 1031, 1032, 17, 18, 19, 20, 21, 22, 23, 24, 25, 1042, 1043, 1044, 1045, 1100001, 1100002, 1100005, 1100003, 1100004, 1100018, 1100019, 1100016, 1100035, 1100036] g5) 1020 0 ((g5 1020 0) + (1 : Int))) [1020, 1021, 1022, 1023, 5, 1011, 3, 4, 1007, 1009, 11, 12, 13, 14, 1024, 15, 16, 1031, 1032, 17, 18, 19, 20, 21, 22, 23, 24, 25, 1042, 1043, 1044, 1045, 1100001, 1100002, 1100005, 1100003, 1100004, 1100018, 1100019, 1100016, 1100035, 1100036] g32) [1024, 11, 12, 13, 14, 1100019, 1100035] g39) 1100001 r43 (1 : Int)) 1100002 r43 ((17 * (20 - (S 1023 0)) + 17))) := sm_upI ok45 sm_r1100002 o47
          have md49 : sv_mod [1020, 1021, 1022, 1023, 5, 1011, 3, 4, 1007, 1009, 11, 12, 13, 14, 1024, 15, 16, 1031, 1032, 17, 18, 19, 20, 21, 22, 23, 24, 25, 1042, 1043, 1044, 1045, 1100001, 1100002, 1100005, 1100003, 1100004, 1100018, 1100019, 1100016, 1100035, 1100036] S (sv_up (sv_up (sv_sts (sv_sts (sv_up (sv_sts S [1020, 1021, 1022, 1023, 5, 1011, 3, 4, 1007, 1009, 11, 12, 13, 14, 1024, 15, 16, 1031, 1032, 17, 18, 19, 20, 21, 22, 23, 24, 25, 1042, 1043, 1044, 1045, 1100001, 1100002, 1100005, 1100003, 1100004, 1100018, 1100019, 1100016, 1100035, 1100036] g5) 1020 0 ((g5 1020 0) + (1 : Int))) [1020, 1021, 1022, 1023, 5, 1011, 3, 4, 1007, 1009, 11, 12, 13, 14, 1024, 15, 16, 1031, 1032, 17, 18, 19, 20, 21, 22, 23, 24, 25, 1042, 1043, 1044, 1045, 1100001, 1100002, 1100005, 1100003, 1100004, 1100018, 1100019, 1100016, 1100035, 1100036] g32) [1024, 11, 12, 13, 14, 1100019, 1100035] g39) 1100001 r43 (1 : Int)) 1100002 r43 ((17 * (20 - (S 1023 0)) + 17))) := sv_mod.up md46 (by decide)
          obtain ⟨o50, h⟩ := h
          refine sv_ghost sm_X 1100005 r43 ((20 - (S 1023 0))) (by decide) ?_
          have ok51 : sm_ok (sv_up (sv_up (sv_up (sv_sts (sv_sts (sv_up (sv_sts S [1020, 1021, 1022, 1023, 5, 1011, 3, 4, 1007, 1009, 11, 12, 13, 14, 1024, 15, 16, 1031, 1032, 17, 18, 19, 20, 21, 22, 23, 24, 25, 1042, 1043, 1044, 1045, 1100001, 1100002, 1100005, 1100003, 1100004, 1100018, 1100019, 1100016, 1100035, 1100036] g5) 1020 0 ((g5 1020 0) + (1 : Int))) [1020, 1021, 1022, 1023, 5, 1011, 3, 4, 1007, 1009, 11, 12, 13, 14, 1024, 15, 16, 1031, 1032, 17, 18, 19, 20, 21, 22, 23, 24, 25, 1042, 1043, 1044, 1045, 1100001, 1100002, 1100005, 1100003, 1100004, 1100018, 1100019, 1100016, 1100035, 1100036] g32) [1024, 11, 12, 13, 14, 1100019, 1100035] g39) 1100001 r43 (1 : Int)) 1100002 r43 ((17 * (20 - (S 1023 0)) + 17))) 1100005 r43 ((20 - (S 1023 0)))) := sm_upI ok48 sm_r1100005 o50
          have md52 : sv_mod [1020, 1021, 1022, 1023, 5, 1011, 3, 4, 1007, 1009, 11, 12, 13, 14, 1024, 15, 16, 1031, 1032, 17, 18, 19, 20, 21, 22, 23, 24, 25, 1042, 1043, 1044, 1045, 1100001, 1100002, 1100005, 1100003, 1100004, 1100018, 1100019, 1100016, 1100035, 1100036] S (sv_up (sv_up (sv_up (sv_sts (sv_sts (sv_up (sv_sts S [1020, 1021, 1022, 1023, 5, 1011, 3, 4, 1007, 1009, 11, 12, 13, 14, 1024, 15, 16, 1031, 1032, 17, 18, 19, 20, 21, 22, 23, 24, 25, 1042, 1043, 1044, 1045, 1100001, 1100002, 1100005, 1100003, 1100004, 1100018, 1100019, 1100016, 1100035, 1100036] g5) 1020 0 ((g5 1020 0) + (1 : Int))) [1020, 1021, 1022, 1023, 5, 1011, 3, 4, 1007, 1009, 11, 12, 13, 14, 1024, 15, 16, 1031, 1032, 17, 18, 19, 20, 21, 22, 23, 24, 25, 1042, 1043, 1044, 1045, 1100001, 1100002, 1100005, 1100003, 1100004, 1100018, 1100019, 1100016, 1100035, 1100036] g32) [1024, 11, 12, 13, 14, 1100019, 1100035] g39) 1100001 r43 (1 : Int)) 1100002 r43 ((17 * (20 - (S 1023 0)) + 17))) 1100005 r43 ((20 - (S 1023 0)))) := sv_mod.up md49 (by decide)
          refine sv_ghost sm_X 1100003 r43 (0 : Int) (by decide) ?_
          have ok53 : sm_ok (sv_up (sv_up (sv_up (sv_up (sv_sts (sv_sts (sv_up (sv_sts S [1020, 1021, 1022, 1023, 5, 1011, 3, 4, 1007, 1009, 11, 12, 13, 14, 1024, 15, 16, 1031, 1032, 17, 18, 19, 20, 21, 22, 23, 24, 25, 1042, 1043, 1044, 1045, 1100001, 1100002, 1100005, 1100003, 1100004, 1100018, 1100019, 1100016, 1100035, 1100036] g5) 1020 0 ((g5 1020 0) + (1 : Int))) [1020, 1021, 1022, 1023, 5, 1011, 3, 4, 1007, 1009, 11, 12, 13, 14, 1024, 15, 16, 1031, 1032, 17, 18, 19, 20, 21, 22, 23, 24, 25, 1042, 1043, 1044, 1045, 1100001, 1100002, 1100005, 1100003, 1100004, 1100018, 1100019, 1100016, 1100035, 1100036] g32) [1024, 11, 12, 13, 14, 1100019, 1100035] g39) 1100001 r43 (1 : Int)) 1100002 r43 ((17 * (20 - (S 1023 0)) + 17))) 1100005 r43 ((20 - (S 1023 0)))) 1100003 r43 (0 : Int)) := sm_upI ok51 sm_r1100003 (⟨by decide, by decide⟩ : sv_R (0 : Int))
          have md54 : sv_mod [1020, 1021, 1022, 1023, 5, 1011, 3, 4, 1007, 1009, 11, 12, 13, 14, 1024, 15, 16, 1031, 1032, 17, 18, 19, 20, 21, 22, 23, 24, 25, 1042, 1043, 1044, 1045, 1100001, 1100002, 1100005, 1100003, 1100004, 1100018, 1100019, 1100016, 1100035, 1100036] S (sv_up (sv_up (sv_up (sv_up (sv_sts (sv_sts (sv_up (sv_sts S [1020, 1021, 1022, 1023, 5, 1011, 3, 4, 1007, 1009, 11, 12, 13, 14, 1024, 15, 16, 1031, 1032, 17, 18, 19, 20, 21, 22, 23, 24, 25, 1042, 1043, 1044, 1045, 1100001, 1100002, 1100005, 1100003, 1100004, 1100018, 1100019, 1100016, 1100035, 1100036] g5) 1020 0 ((g5 1020 0) + (1 : Int))) [1020, 1021, 1022, 1023, 5, 1011, 3, 4, 1007, 1009, 11, 12, 13, 14, 1024, 15, 16, 1031, 1032, 17, 18, 19, 20, 21, 22, 23, 24, 25, 1042, 1043, 1044, 1045, 1100001, 1100002, 1100005, 1100003, 1100004, 1100018, 1100019, 1100016, 1100035, 1100036] g32) [1024, 11, 12, 13, 14, 1100019, 1100035] g39) 1100001 r43 (1 : Int)) 1100002 r43 ((17 * (20 - (S 1023 0)) + 17))) 1100005 r43 ((20 - (S 1023 0)))) 1100003 r43 (0 : Int)) := sv_mod.up md52 (by decide)
          refine sv_ghost sm_X 1100004 r43 (0 : Int) (by decide) ?_
          have ok55 : sm_ok (sv_up (sv_up (sv_up (sv_up (sv_up (sv_sts (sv_sts (sv_up (sv_sts S [1020, 1021, 1022, 1023, 5, 1011, 3, 4, 1007, 1009, 11, 12, 13, 14, 1024, 15, 16, 1031, 1032, 17, 18, 19, 20, 21, 22, 23, 24, 25, 1042, 1043, 1044, 1045, 1100001, 1100002, 1100005, 1100003, 1100004, 1100018, 1100019, 1100016, 1100035, 1100036] g5) 1020 0 ((g5 1020 0) + (1 : Int))) [1020, 1021, 1022, 1023, 5, 1011, 3, 4, 1007, 1009, 11, 12, 13, 14, 1024, 15, 16, 1031, 1032, 17, 18, 19, 20, 21, 22, 23, 24, 25, 1042, 1043, 1044, 1045, 1100001, 1100002, 1100005, 1100003, 1100004, 1100018, 1100019, 1100016, 1100035, 1100036] g32) [1024, 11, 12, 13, 14, 1100019, 1100035] g39) 1100001 r43 (1 : Int)) 1100002 r43 ((17 * (20 - (S 1023 0)) + 17))) 1100005 r43 ((20 - (S 1023 0)))) 1100003 r43 (0 : Int)) 1100004 r43 (0 : Int)) := sm_upI ok53 sm_r1100004 (⟨by decide, by decide⟩ : sv_R (0 : Int))
          have md56 : sv_mod [1020, 1021, 1022, 1023, 5, 1011, 3, 4, 1007, 1009, 11, 12, 13, 14, 1024, 15, 16, 1031, 1032, 17, 18, 19, 20, 21, 22, 23, 24, 25, 1042, 1043, 1044, 1045, 1100001, 1100002, 1100005, 1100003, 1100004, 1100018, 1100019, 1100016, 1100035, 1100036] S (sv_up (sv_up (sv_up (sv_up (sv_up (sv_sts (sv_sts (sv_up (sv_sts S [1020, 1021, 1022, 1023, 5, 1011, 3, 4, 1007, 1009, 11, 12, 13, 14, 1024, 15, 16, 1031, 1032, 17, 18, 19, 20, 21, 22, 23, 24, 25, 1042, 1043, 1044, 1045, 1100001, 1100002, 1100005, 1100003, 1100004, 1100018, 1100019, 1100016, 1100035, 1100036] g5) 1020 0 ((g5 1020 0) + (1 : Int))) [1020, 1021, 1022, 1023, 5, 1011, 3, 4, 1007, 1009, 11, 12, 13, 14, 1024, 15, 16, 1031, 1032, 17, 18, 19, 20, 21, 22, 23, 24, 25, 1042, 1043, 1044, 1045, 1100001, 1100002, 1100005, 1100003, 1100004, 1100018, 1100019, 1100016, 1100035, 1100036] g32) [1024, 11, 12, 13, 14, 1100019, 1100035] g39) 1100001 r43 (1 : Int)) 1100002 r43 ((17 * (20 - (S 1023 0)) + 17))) 1100005 r43 ((20 - (S 1023 0)))) 1100003 r43 (0 : Int)) 1100004 r43 (0 : Int)) := sv_mod.up md54 (by decide)
          have k57 : ((g32 1021 0) = 0 → sm_WG (g32 1100001) (g39 1100019) (g32 1043 0) → (g39 1100019 r43) = (g32 1043 0) → sm_WG (fun i' : Int => if i' = r43 then (1 : Int) else (g32 1100001) i') (g39 1100019) (g32 1043 0)) := fun _ a b => sm_WG_C a b
          have h := h k57
          have k58 : ((g32 1021 0) = 0 → sm_WF (g39 11) (g39 12) (g39 13) (g32 1100001) (g32 1100002) (g32 1100005) (g32 1100003) (g32 1100004) (g39 1024 0) (g32 1007 0) (g32 1009 0) (sm_fn (g32 1032 0) (g32 21) (g32 1043 0)) → (g32 1100001 r43) = 0 → 0 ≤ r43 → r43 < (g39 1024 0) → (g39 13 r43) = -1 → (g39 11 r43) = 15 → (-1 ≤ (g39 12 (5 * r43)) ∧ (g39 12 (5 * r43)) ≤ 10) → (sm_ex (g32 1100001) (g32 1100002) (g32 1100005) (g39 1024 0) 1 (g39 12 (5 * r43 + 1)) ((17 * (20 - (S 1023 0)) + 17) - 3) (20 - (S 1023 0))) → ((g39 12 (5 * r43 + 1)) < r43) → ((g39 11 (g39 12 (5 * r43 + 1))) = 2 ∨ (g39 11 (g39 12 (5 * r43 + 1))) = 7) → (sm_ex (g32 1100001) (g32 1100002) (g32 1100005) (g39 1024 0) 1 (g39 12 (5 * r43 + 2)) ((17 * (20 - (S 1023 0)) + 17) - 3) ((20 - (S 1023 0)) - 1)) → (0 ≤ (17 * (20 - (S 1023 0)) + 17)) → (0 ≤ (20 - (S 1023 0))) → sm_WF (g39 11) (g39 12) (g39 13) (fun i' : Int => if i' = r43 then (1 : Int) else (g32 1100001) i') (fun i' : Int => if i' = r43 then ((17 * (20 - (S 1023 0)) + 17)) else (g32 1100002) i') (fun i' : Int => if i' = r43 then ((20 - (S 1023 0))) else (g32 1100005) i') (fun i' : Int => if i' = r43 then (0 : Int) else (g32 1100003) i') (fun i' : Int => if i' = r43 then (0 : Int) else (g32 1100004) i') (g39 1024 0) (g32 1007 0) (g32 1009 0) (sm_fn (g32 1032 0) (g32 21) (g32 1043 0))) := fun a0 aW a1 a2 a3 a4 aS c1 c2 c3 c4 c5 c6 c7 => (sm_mk1 aW a1 a2 a3 a4 (Or.inr ⟨rfl, sm_c1_15 aS c1 c2 c3 c4 c5⟩) ⟨c6, fun q => absurd (aS.symm.trans q) (by decide), fun q => absurd q (by omega), c7⟩).1
          have h := h k58
          exact sv_iret hM dX12_assigned_76 rfl rfl ⟨r43, rfl, hr43, ok55, md56, h⟩
        · have h := h.2 (hc)
          refine sv_iconst (d := (-1 : Int)) hM dX12_assigned_62 rfl rfl ?_
          refine sv_goto hM dX12_assigned_63 (pc' := 67) rfl ?_
          refine sv_iload_n hM dX12_assigned_67 rfl rfl ?_
          refine sv_aload_n hM dX12_assigned_68 rfl rfl ?_
          refine sv_iload_n hM dX12_assigned_69 rfl rfl ?_
          obtain ⟨o59, h⟩ := h
          obtain ⟨o60, h⟩ := h
          obtain ⟨o61, h⟩ := h
          refine sv_callV hM dX12_assigned_70 sm_iv_466 (by decide) (sm_a0 _) rfl rfl (Nat.le_of_ble_eq_true rfl) sm_h46 (Nat.le_of_ble_eq_true rfl) (Nat.le_of_ble_eq_true rfl) (F' := ((30 * (20 - (g5 1023 0)) + 14)).toNat) (sv_Fe o61) rfl ((IH (30 * (20 - (g5 1023 0)) + 14) o60.1 o60.2).2.1 p1 (sv_up (sv_sts S [1020, 1021, 1022, 1023, 5, 1011, 3, 4, 1007, 1009, 11, 12, 13, 14, 1024, 15, 16, 1031, 1032, 17, 18, 19, 20, 21, 22, 23, 24, 25, 1042, 1043, 1044, 1045, 1100001, 1100002, 1100005, 1100003, 1100004, 1100018, 1100019, 1100016, 1100035, 1100036] g5) 1020 0 ((g5 1020 0) + (1 : Int))) ok27 o1 o59 rfl) (fun v S1 hq => ?_)
          obtain ⟨r66, rfl, hr66, ok63, md64, hpo65⟩ := hq
          obtain ⟨g62, rfl⟩ : ∃ g, S1 = sv_sts (sv_up (sv_sts S [1020, 1021, 1022, 1023, 5, 1011, 3, 4, 1007, 1009, 11, 12, 13, 14, 1024, 15, 16, 1031, 1032, 17, 18, 19, 20, 21, 22, 23, 24, 25, 1042, 1043, 1044, 1045, 1100001, 1100002, 1100005, 1100003, 1100004, 1100018, 1100019, 1100016, 1100035, 1100036] g5) 1020 0 ((g5 1020 0) + (1 : Int))) [1020, 1021, 1022, 1023, 5, 1011, 3, 4, 1007, 1009, 11, 12, 13, 14, 1024, 15, 16, 1031, 1032, 17, 18, 19, 20, 21, 22, 23, 24, 25, 1042, 1043, 1044, 1045, 1100001, 1100002, 1100005, 1100003, 1100004, 1100018, 1100019, 1100016, 1100035, 1100036] g := ⟨_, md64.eq⟩
          show sv_T sm_XS sm_cs sm_L sm_sh ((if 0 < (S 1021 0) then 12 else 30 * (20 - (S 1023 0)) + 25)).toNat (q_assigned p1 S) 47 73 [(0, .ref 0), (1, sv_I p1), (2, sv_I r9), (3, sv_I r18)] [sv_I r66, sv_I r9, sv_I (-1 : Int), sv_I (15 : Int), .ref 0] (sv_sts (sv_up (sv_sts S [1020, 1021, 1022, 1023, 5, 1011, 3, 4, 1007, 1009, 11, 12, 13, 14, 1024, 15, 16, 1031, 1032, 17, 18, 19, 20, 21, 22, 23, 24, 25, 1042, 1043, 1044, 1045, 1100001, 1100002, 1100005, 1100003, 1100004, 1100018, 1100019, 1100016, 1100035, 1100036] g5) 1020 0 ((g5 1020 0) + (1 : Int))) [1020, 1021, 1022, 1023, 5, 1011, 3, 4, 1007, 1009, 11, 12, 13, 14, 1024, 15, 16, 1031, 1032, 17, 18, 19, 20, 21, 22, 23, 24, 25, 1042, 1043, 1044, 1045, 1100001, 1100002, 1100005, 1100003, 1100004, 1100018, 1100019, 1100016, 1100035, 1100036] g62)
          have md67 : sv_mod [1020, 1021, 1022, 1023, 5, 1011, 3, 4, 1007, 1009, 11, 12, 13, 14, 1024, 15, 16, 1031, 1032, 17, 18, 19, 20, 21, 22, 23, 24, 25, 1042, 1043, 1044, 1045, 1100001, 1100002, 1100005, 1100003, 1100004, 1100018, 1100019, 1100016, 1100035, 1100036] S (sv_sts (sv_up (sv_sts S [1020, 1021, 1022, 1023, 5, 1011, 3, 4, 1007, 1009, 11, 12, 13, 14, 1024, 15, 16, 1031, 1032, 17, 18, 19, 20, 21, 22, 23, 24, 25, 1042, 1043, 1044, 1045, 1100001, 1100002, 1100005, 1100003, 1100004, 1100018, 1100019, 1100016, 1100035, 1100036] g5) 1020 0 ((g5 1020 0) + (1 : Int))) [1020, 1021, 1022, 1023, 5, 1011, 3, 4, 1007, 1009, 11, 12, 13, 14, 1024, 15, 16, 1031, 1032, 17, 18, 19, 20, 21, 22, 23, 24, 25, 1042, 1043, 1044, 1045, 1100001, 1100002, 1100005, 1100003, 1100004, 1100018, 1100019, 1100016, 1100035, 1100036] g62) := sv_mod.sts md28 (by decide)
          have h := h r66 hr66 g62 hpo65
          obtain ⟨o68, h⟩ := h
          refine sv_callV hM dX12_assigned_73 sm_iv_446 (by decide) (sm_a0 _) rfl rfl (Nat.le_of_ble_eq_true rfl) sm_h33 (Nat.le_of_ble_eq_true rfl) (Nat.le_of_ble_eq_true rfl) (F' := 0) (sv_Fn (n := 0) o13) rfl (t_nodeR (15 : Int) (-1 : Int) r9 r66 (sv_sts (sv_up (sv_sts S [1020, 1021, 1022, 1023, 5, 1011, 3, 4, 1007, 1009, 11, 12, 13, 14, 1024, 15, 16, 1031, 1032, 17, 18, 19, 20, 21, 22, 23, 24, 25, 1042, 1043, 1044, 1045, 1100001, 1100002, 1100005, 1100003, 1100004, 1100018, 1100019, 1100016, 1100035, 1100036] g5) 1020 0 ((g5 1020 0) + (1 : Int))) [1020, 1021, 1022, 1023, 5, 1011, 3, 4, 1007, 1009, 11, 12, 13, 14, 1024, 15, 16, 1031, 1032, 17, 18, 19, 20, 21, 22, 23, 24, 25, 1042, 1043, 1044, 1045, 1100001, 1100002, 1100005, 1100003, 1100004, 1100018, 1100019, 1100016, 1100035, 1100036] g62) ok63 (⟨by decide, by decide⟩ : sv_R (15 : Int)) (⟨by decide, by decide⟩ : sv_R (-1 : Int)) hr9 hr66 o68) (fun v S1 hq => ?_)
          obtain ⟨r73, rfl, hr73, ok70, md71, hpo72⟩ := hq
          obtain ⟨g69, rfl⟩ : ∃ g, S1 = sv_sts (sv_sts (sv_up (sv_sts S [1020, 1021, 1022, 1023, 5, 1011, 3, 4, 1007, 1009, 11, 12, 13, 14, 1024, 15, 16, 1031, 1032, 17, 18, 19, 20, 21, 22, 23, 24, 25, 1042, 1043, 1044, 1045, 1100001, 1100002, 1100005, 1100003, 1100004, 1100018, 1100019, 1100016, 1100035, 1100036] g5) 1020 0 ((g5 1020 0) + (1 : Int))) [1020, 1021, 1022, 1023, 5, 1011, 3, 4, 1007, 1009, 11, 12, 13, 14, 1024, 15, 16, 1031, 1032, 17, 18, 19, 20, 21, 22, 23, 24, 25, 1042, 1043, 1044, 1045, 1100001, 1100002, 1100005, 1100003, 1100004, 1100018, 1100019, 1100016, 1100035, 1100036] g62) [1024, 11, 12, 13, 14, 1100019, 1100035] g := ⟨_, md71.eq⟩
          show sv_T sm_XS sm_cs sm_L sm_sh ((if 0 < (S 1021 0) then 12 else 30 * (20 - (S 1023 0)) + 25)).toNat (q_assigned p1 S) 47 76 [(0, .ref 0), (1, sv_I p1), (2, sv_I r9), (3, sv_I r18)] [sv_I r73] (sv_sts (sv_sts (sv_up (sv_sts S [1020, 1021, 1022, 1023, 5, 1011, 3, 4, 1007, 1009, 11, 12, 13, 14, 1024, 15, 16, 1031, 1032, 17, 18, 19, 20, 21, 22, 23, 24, 25, 1042, 1043, 1044, 1045, 1100001, 1100002, 1100005, 1100003, 1100004, 1100018, 1100019, 1100016, 1100035, 1100036] g5) 1020 0 ((g5 1020 0) + (1 : Int))) [1020, 1021, 1022, 1023, 5, 1011, 3, 4, 1007, 1009, 11, 12, 13, 14, 1024, 15, 16, 1031, 1032, 17, 18, 19, 20, 21, 22, 23, 24, 25, 1042, 1043, 1044, 1045, 1100001, 1100002, 1100005, 1100003, 1100004, 1100018, 1100019, 1100016, 1100035, 1100036] g62) [1024, 11, 12, 13, 14, 1100019, 1100035] g69)
          have md74 : sv_mod [1020, 1021, 1022, 1023, 5, 1011, 3, 4, 1007, 1009, 11, 12, 13, 14, 1024, 15, 16, 1031, 1032, 17, 18, 19, 20, 21, 22, 23, 24, 25, 1042, 1043, 1044, 1045, 1100001, 1100002, 1100005, 1100003, 1100004, 1100018, 1100019, 1100016, 1100035, 1100036] S (sv_sts (sv_sts (sv_up (sv_sts S [1020, 1021, 1022, 1023, 5, 1011, 3, 4, 1007, 1009, 11, 12, 13, 14, 1024, 15, 16, 1031, 1032, 17, 18, 19, 20, 21, 22, 23, 24, 25, 1042, 1043, 1044, 1045, 1100001, 1100002, 1100005, 1100003, 1100004, 1100018, 1100019, 1100016, 1100035, 1100036] g5) 1020 0 ((g5 1020 0) + (1 : Int))) [1020, 1021, 1022, 1023, 5, 1011, 3, 4, 1007, 1009, 11, 12, 13, 14, 1024, 15, 16, 1031, 1032, 17, 18, 19, 20, 21, 22, 23, 24, 25, 1042, 1043, 1044, 1045, 1100001, 1100002, 1100005, 1100003, 1100004, 1100018, 1100019, 1100016, 1100035, 1100036] g62) [1024, 11, 12, 13, 14, 1100019, 1100035] g69) := sv_mod.sts md67 (by decide)
          have h := h r73 hr73 g69 hpo72
          refine sv_ghost sm_X 1100001 r73 (1 : Int) (by decide) ?_
          have ok75 : sm_ok (sv_up (sv_sts (sv_sts (sv_up (sv_sts S [1020, 1021, 1022, 1023, 5, 1011, 3, 4, 1007, 1009, 11, 12, 13, 14, 1024, 15, 16, 1031, 1032, 17, 18, 19, 20, 21, 22, 23, 24, 25, 1042, 1043, 1044, 1045, 1100001, 1100002, 1100005, 1100003, 1100004, 1100018, 1100019, 1100016, 1100035, 1100036] g5) 1020 0 ((g5 1020 0) + (1 : Int))) [1020, 1021, 1022, 1023, 5, 1011, 3, 4, 1007, 1009, 11, 12, 13, 14, 1024, 15, 16, 1031, 1032, 17, 18, 19, 20, 21, 22, 23, 24, 25, 1042, 1043, 1044, 1045, 1100001, 1100002, 1100005, 1100003, 1100004, 1100018, 1100019, 1100016, 1100035, 1100036] g62) [1024, 11, 12, 13, 14, 1100019, 1100035] g69) 1100001 r73 (1 : Int)) := sm_upI ok70 sm_r1100001 (⟨by decide, by decide⟩ : sv_R (1 : Int))
          have md76 : sv_mod [1020, 1021, 1022, 1023, 5, 1011, 3, 4, 1007, 1009, 11, 12, 13, 14, 1024, 15, 16, 1031, 1032, 17, 18, 19, 20, 21, 22, 23, 24, 25, 1042, 1043, 1044, 1045, 1100001, 1100002, 1100005, 1100003, 1100004, 1100018, 1100019, 1100016, 1100035, 1100036] S (sv_up (sv_sts (sv_sts (sv_up (sv_sts S [1020, 1021, 1022, 1023, 5, 1011, 3, 4, 1007, 1009, 11, 12, 13, 14, 1024, 15, 16, 1031, 1032, 17, 18, 19, 20, 21, 22, 23, 24, 25, 1042, 1043, 1044, 1045, 1100001, 1100002, 1100005, 1100003, 1100004, 1100018, 1100019, 1100016, 1100035, 1100036] g5) 1020 0 ((g5 1020 0) + (1 : Int))) [1020, 1021, 1022, 1023, 5, 1011, 3, 4, 1007, 1009, 11, 12, 13, 14, 1024, 15, 16, 1031, 1032, 17, 18, 19, 20, 21, 22, 23, 24, 25, 1042, 1043, 1044, 1045, 1100001, 1100002, 1100005, 1100003, 1100004, 1100018, 1100019, 1100016, 1100035, 1100036] g62) [1024, 11, 12, 13, 14, 1100019, 1100035] g69) 1100001 r73 (1 : Int)) := sv_mod.up md74 (by decide)
          obtain ⟨o77, h⟩ := h
          refine sv_ghost sm_X 1100002 r73 ((17 * (20 - (S 1023 0)) + 17)) (by decide) ?_
          have ok78 : sm_ok (sv_up (sv_up (sv_sts (sv_sts (sv_up (sv_sts S [1020, 1021, 1022, 1023, 5, 1011, 3, 4, 1007, 1009, 11, 12, 13, 14, 1024, 15, 16, 1031, 1032, 17, 18, 19, 20, 21, 22, 23, 24, 25, 1042, 1043, 1044, 1045, 1100001, 1100002, 1100005, 1100003, 1100004, 1100018, 1100019, 1100016, 1100035, 1100036] g5) 1020 0 ((g5 1020 0) + (1 : Int))) [1020, 1021, 1022, 1023, 5, 1011, 3, 4, 1007, 1009, 11, 12, 13, 14, 1024, 15, 16, 1031, 1032, 17, 18, 19, 20, 21, 22, 23, 24, 25, 1042, 1043, 1044, 1045, 1100001, 1100002, 1100005, 1100003, 1100004, 1100018, 1100019, 1100016, 1100035, 1100036] g62) [1024, 11, 12, 13, 14, 1100019, 1100035] g69) 1100001 r73 (1 : Int)) 1100002 r73 ((17 * (20 - (S 1023 0)) + 17))) := sm_upI ok75 sm_r1100002 o77
          have md79 : sv_mod [1020, 1021, 1022, 1023, 5, 1011, 3, 4, 1007, 1009, 11, 12, 13, 14, 1024, 15, 16, 1031, 1032, 17, 18, 19, 20, 21, 22, 23, 24, 25, 1042, 1043, 1044, 1045, 1100001, 1100002, 1100005, 1100003, 1100004, 1100018, 1100019, 1100016, 1100035, 1100036] S (sv_up (sv_up (sv_sts (sv_sts (sv_up (sv_sts S [1020, 1021, 1022, 1023, 5, 1011, 3, 4, 1007, 1009, 11, 12, 13, 14, 1024, 15, 16, 1031, 1032, 17, 18, 19, 20, 21, 22, 23, 24, 25, 1042, 1043, 1044, 1045, 1100001, 1100002, 1100005, 1100003, 1100004, 1100018, 1100019, 1100016, 1100035, 1100036] g5) 1020 0 ((g5 1020 0) + (1 : Int))) [1020, 1021, 1022, 1023, 5, 1011, 3, 4, 1007, 1009, 11, 12, 13, 14, 1024, 15, 16, 1031, 1032, 17, 18, 19, 20, 21, 22, 23, 24, 25, 1042, 1043, 1044, 1045, 1100001, 1100002, 1100005, 1100003, 1100004, 1100018, 1100019, 1100016, 1100035, 1100036] g62) [1024, 11, 12, 13, 14, 1100019, 1100035] g69) 1100001 r73 (1 : Int)) 1100002 r73 ((17 * (20 - (S 1023 0)) + 17))) := sv_mod.up md76 (by decide)
          obtain ⟨o80, h⟩ := h
          refine sv_ghost sm_X 1100005 r73 ((20 - (S 1023 0))) (by decide) ?_
          have ok81 : sm_ok (sv_up (sv_up (sv_up (sv_sts (sv_sts (sv_up (sv_sts S [1020, 1021, 1022, 1023, 5, 1011, 3, 4, 1007, 1009, 11, 12, 13, 14, 1024, 15, 16, 1031, 1032, 17, 18, 19, 20, 21, 22, 23, 24, 25, 1042, 1043, 1044, 1045, 1100001, 1100002, 1100005, 1100003, 1100004, 1100018, 1100019, 1100016, 1100035, 1100036] g5) 1020 0 ((g5 1020 0) + (1 : Int))) [1020, 1021, 1022, 1023, 5, 1011, 3, 4, 1007, 1009, 11, 12, 13, 14, 1024, 15, 16, 1031, 1032, 17, 18, 19, 20, 21, 22, 23, 24, 25, 1042, 1043, 1044, 1045, 1100001, 1100002, 1100005, 1100003, 1100004, 1100018, 1100019, 1100016, 1100035, 1100036] g62) [1024, 11, 12, 13, 14, 1100019, 1100035] g69) 1100001 r73 (1 : Int)) 1100002 r73 ((17 * (20 - (S 1023 0)) + 17))) 1100005 r73 ((20 - (S 1023 0)))) := sm_upI ok78 sm_r1100005 o80
          have md82 : sv_mod [1020, 1021, 1022, 1023, 5, 1011, 3, 4, 1007, 1009, 11, 12, 13, 14, 1024, 15, 16, 1031, 1032, 17, 18, 19, 20, 21, 22, 23, 24, 25, 1042, 1043, 1044, 1045, 1100001, 1100002, 1100005, 1100003, 1100004, 1100018, 1100019, 1100016, 1100035, 1100036] S (sv_up (sv_up (sv_up (sv_sts (sv_sts (sv_up (sv_sts S [1020, 1021, 1022, 1023, 5, 1011, 3, 4, 1007, 1009, 11, 12, 13, 14, 1024, 15, 16, 1031, 1032, 17, 18, 19, 20, 21, 22, 23, 24, 25, 1042, 1043, 1044, 1045, 1100001, 1100002, 1100005, 1100003, 1100004, 1100018, 1100019, 1100016, 1100035, 1100036] g5) 1020 0 ((g5 1020 0) + (1 : Int))) [1020, 1021, 1022, 1023, 5, 1011, 3, 4, 1007, 1009, 11, 12, 13, 14, 1024, 15, 16, 1031, 1032, 17, 18, 19, 20, 21, 22, 23, 24, 25, 1042, 1043, 1044, 1045, 1100001, 1100002, 1100005, 1100003, 1100004, 1100018, 1100019, 1100016, 1100035, 1100036] g62) [1024, 11, 12, 13, 14, 1100019, 1100035] g69) 1100001 r73 (1 : Int)) 1100002 r73 ((17 * (20 - (S 1023 0)) + 17))) 1100005 r73 ((20 - (S 1023 0)))) := sv_mod.up md79 (by decide)
          refine sv_ghost sm_X 1100003 r73 (0 : Int) (by decide) ?_
          have ok83 : sm_ok (sv_up (sv_up (sv_up (sv_up (sv_sts (sv_sts (sv_up (sv_sts S [1020, 1021, 1022, 1023, 5, 1011, 3, 4, 1007, 1009, 11, 12, 13, 14, 1024, 15, 16, 1031, 1032, 17, 18, 19, 20, 21, 22, 23, 24, 25, 1042, 1043, 1044, 1045, 1100001, 1100002, 1100005, 1100003, 1100004, 1100018, 1100019, 1100016, 1100035, 1100036] g5) 1020 0 ((g5 1020 0) + (1 : Int))) [1020, 1021, 1022, 1023, 5, 1011, 3, 4, 1007, 1009, 11, 12, 13, 14, 1024, 15, 16, 1031, 1032, 17, 18, 19, 20, 21, 22, 23, 24, 25, 1042, 1043, 1044, 1045, 1100001, 1100002, 1100005, 1100003, 1100004, 1100018, 1100019, 1100016, 1100035, 1100036] g62) [1024, 11, 12, 13, 14, 1100019, 1100035] g69) 1100001 r73 (1 : Int)) 1100002 r73 ((17 * (20 - (S 1023 0)) + 17))) 1100005 r73 ((20 - (S 1023 0)))) 1100003 r73 (0 : Int)) := sm_upI ok81 sm_r1100003 (⟨by decide, by decide⟩ : sv_R (0 : Int))
          have md84 : sv_mod [1020, 1021, 1022, 1023, 5, 1011, 3, 4, 1007, 1009, 11, 12, 13, 14, 1024, 15, 16, 1031, 1032, 17, 18, 19, 20, 21, 22, 23, 24, 25, 1042, 1043, 1044, 1045, 1100001, 1100002, 1100005, 1100003, 1100004, 1100018, 1100019, 1100016, 1100035, 1100036] S (sv_up (sv_up (sv_up (sv_up (sv_sts (sv_sts (sv_up (sv_sts S [1020, 1021, 1022, 1023, 5, 1011, 3, 4, 1007, 1009, 11, 12, 13, 14, 1024, 15, 16, 1031, 1032, 17, 18, 19, 20, 21, 22, 23, 24, 25, 1042, 1043, 1044, 1045, 1100001, 1100002, 1100005, 1100003, 1100004, 1100018, 1100019, 1100016, 1100035, 1100036] g5) 1020 0 ((g5 1020 0) + (1 : Int))) [1020, 1021, 1022, 1023, 5, 1011, 3, 4, 1007, 1009, 11, 12, 13, 14, 1024, 15, 16, 1031, 1032, 17, 18, 19, 20, 21, 22, 23, 24, 25, 1042, 1043, 1044, 1045, 1100001, 1100002, 1100005, 1100003, 1100004, 1100018, 1100019, 1100016, 1100035, 1100036] g62) [1024, 11, 12, 13, 14, 1100019, 1100035] g69) 1100001 r73 (1 : Int)) 1100002 r73 ((17 * (20 - (S 1023 0)) + 17))) 1100005 r73 ((20 - (S 1023 0)))) 1100003 r73 (0 : Int)) := sv_mod.up md82 (by decide)
          refine sv_ghost sm_X 1100004 r73 (0 : Int) (by decide) ?_
          have ok85 : sm_ok (sv_up (sv_up (sv_up (sv_up (sv_up (sv_sts (sv_sts (sv_up (sv_sts S [1020, 1021, 1022, 1023, 5, 1011, 3, 4, 1007, 1009, 11, 12, 13, 14, 1024, 15, 16, 1031, 1032, 17, 18, 19, 20, 21, 22, 23, 24, 25, 1042, 1043, 1044, 1045, 1100001, 1100002, 1100005, 1100003, 1100004, 1100018, 1100019, 1100016, 1100035, 1100036] g5) 1020 0 ((g5 1020 0) + (1 : Int))) [1020, 1021, 1022, 1023, 5, 1011, 3, 4, 1007, 1009, 11, 12, 13, 14, 1024, 15, 16, 1031, 1032, 17, 18, 19, 20, 21, 22, 23, 24, 25, 1042, 1043, 1044, 1045, 1100001, 1100002, 1100005, 1100003, 1100004, 1100018, 1100019, 1100016, 1100035, 1100036] g62) [1024, 11, 12, 13, 14, 1100019, 1100035] g69) 1100001 r73 (1 : Int)) 1100002 r73 ((17 * (20 - (S 1023 0)) + 17))) 1100005 r73 ((20 - (S 1023 0)))) 1100003 r73 (0 : Int)) 1100004 r73 (0 : Int)) := sm_upI ok83 sm_r1100004 (⟨by decide, by decide⟩ : sv_R (0 : Int))
          have md86 : sv_mod [1020, 1021, 1022, 1023, 5, 1011, 3, 4, 1007, 1009, 11, 12, 13, 14, 1024, 15, 16, 1031, 1032, 17, 18, 19, 20, 21, 22, 23, 24, 25, 1042, 1043, 1044, 1045, 1100001, 1100002, 1100005, 1100003, 1100004, 1100018, 1100019, 1100016, 1100035, 1100036] S (sv_up (sv_up (sv_up (sv_up (sv_up (sv_sts (sv_sts (sv_up (sv_sts S [1020, 1021, 1022, 1023, 5, 1011, 3, 4, 1007, 1009, 11, 12, 13, 14, 1024, 15, 16, 1031, 1032, 17, 18, 19, 20, 21, 22, 23, 24, 25, 1042, 1043, 1044, 1045, 1100001, 1100002, 1100005, 1100003, 1100004, 1100018, 1100019, 1100016, 1100035, 1100036] g5) 1020 0 ((g5 1020 0) + (1 : Int))) [1020, 1021, 1022, 1023, 5, 1011, 3, 4, 1007, 1009, 11, 12, 13, 14, 1024, 15, 16, 1031, 1032, 17, 18, 19, 20, 21, 22, 23, 24, 25, 1042, 1043, 1044, 1045, 1100001, 1100002, 1100005, 1100003, 1100004, 1100018, 1100019, 1100016, 1100035, 1100036] g62) [1024, 11, 12, 13, 14, 1100019, 1100035] g69) 1100001 r73 (1 : Int)) 1100002 r73 ((17 * (20 - (S 1023 0)) + 17))) 1100005 r73 ((20 - (S 1023 0)))) 1100003 r73 (0 : Int)) 1100004 r73 (0 : Int)) := sv_mod.up md84 (by decide)
          have k87 : ((g62 1021 0) = 0 → sm_WG (g62 1100001) (g69 1100019) (g62 1043 0) → (g69 1100019 r73) = (g62 1043 0) → sm_WG (fun i' : Int => if i' = r73 then (1 : Int) else (g62 1100001) i') (g69 1100019) (g62 1043 0)) := fun _ a b => sm_WG_C a b
          have h := h k87
          have k88 : ((g62 1021 0) = 0 → sm_WF (g69 11) (g69 12) (g69 13) (g62 1100001) (g62 1100002) (g62 1100005) (g62 1100003) (g62 1100004) (g69 1024 0) (g62 1007 0) (g62 1009 0) (sm_fn (g62 1032 0) (g62 21) (g62 1043 0)) → (g62 1100001 r73) = 0 → 0 ≤ r73 → r73 < (g69 1024 0) → (g69 13 r73) = -1 → (g69 11 r73) = 15 → (-1 ≤ (g69 12 (5 * r73)) ∧ (g69 12 (5 * r73)) ≤ 10) → (sm_ex (g62 1100001) (g62 1100002) (g62 1100005) (g69 1024 0) 1 (g69 12 (5 * r73 + 1)) ((17 * (20 - (S 1023 0)) + 17) - 3) (20 - (S 1023 0))) → ((g69 12 (5 * r73 + 1)) < r73) → ((g69 11 (g69 12 (5 * r73 + 1))) = 2 ∨ (g69 11 (g69 12 (5 * r73 + 1))) = 7) → (sm_ex (g62 1100001) (g62 1100002) (g62 1100005) (g69 1024 0) 1 (g69 12 (5 * r73 + 2)) ((17 * (20 - (S 1023 0)) + 17) - 3) ((20 - (S 1023 0)) - 1)) → (0 ≤ (17 * (20 - (S 1023 0)) + 17)) → (0 ≤ (20 - (S 1023 0))) → sm_WF (g69 11) (g69 12) (g69 13) (fun i' : Int => if i' = r73 then (1 : Int) else (g62 1100001) i') (fun i' : Int => if i' = r73 then ((17 * (20 - (S 1023 0)) + 17)) else (g62 1100002) i') (fun i' : Int => if i' = r73 then ((20 - (S 1023 0))) else (g62 1100005) i') (fun i' : Int => if i' = r73 then (0 : Int) else (g62 1100003) i') (fun i' : Int => if i' = r73 then (0 : Int) else (g62 1100004) i') (g69 1024 0) (g62 1007 0) (g62 1009 0) (sm_fn (g62 1032 0) (g62 21) (g62 1043 0))) := fun a0 aW a1 a2 a3 a4 aS c1 c2 c3 c4 c5 c6 c7 => (sm_mk1 aW a1 a2 a3 a4 (Or.inr ⟨rfl, sm_c1_15 aS c1 c2 c3 c4 c5⟩) ⟨c6, fun q => absurd (aS.symm.trans q) (by decide), fun q => absurd q (by omega), c7⟩).1
          have h := h k88
          exact sv_iret hM dX12_assigned_76 rfl rfl ⟨r73, rfl, hr73, ok85, md86, h⟩
      · have h := h.2 (hc)
        refine sv_aload_n hM dX12_assigned_35 rfl rfl ?_
        refine sv_iconst (d := (3 : Int)) hM dX12_assigned_36 rfl rfl ?_
        obtain ⟨o89, h⟩ := h
        refine sv_callV hM dX12_assigned_37 sm_iv_401 (by decide) (sm_a0 _) rfl rfl (Nat.le_of_ble_eq_true rfl) sm_h23 (Nat.le_of_ble_eq_true rfl) (Nat.le_of_ble_eq_true rfl) (F' := 0) (sv_Fn (n := 0) o13) rfl (t_fail (3 : Int) (sv_sts S [1020, 1021, 1022, 1023, 5, 1011, 3, 4, 1007, 1009, 11, 12, 13, 14, 1024, 15, 16, 1031, 1032, 17, 18, 19, 20, 21, 22, 23, 24, 25, 1042, 1043, 1044, 1045, 1100001, 1100002, 1100005, 1100003, 1100004, 1100018, 1100019, 1100016, 1100035, 1100036] g5) ok21 (⟨by decide, by decide⟩ : sv_R (3 : Int)) o89) (fun v S1 hq => ?_)
        obtain ⟨r94, rfl, hr94, ok91, md92, hpo93⟩ := hq
        obtain ⟨g90, rfl⟩ : ∃ g, S1 = sv_sts (sv_sts S [1020, 1021, 1022, 1023, 5, 1011, 3, 4, 1007, 1009, 11, 12, 13, 14, 1024, 15, 16, 1031, 1032, 17, 18, 19, 20, 21, 22, 23, 24, 25, 1042, 1043, 1044, 1045, 1100001, 1100002, 1100005, 1100003, 1100004, 1100018, 1100019, 1100016, 1100035, 1100036] g5) [1021, 1022] g := ⟨_, md92.eq⟩
        show sv_T sm_XS sm_cs sm_L sm_sh ((if 0 < (S 1021 0) then 12 else 30 * (20 - (S 1023 0)) + 25)).toNat (q_assigned p1 S) 47 40 [(0, .ref 0), (1, sv_I p1), (2, sv_I r9), (3, sv_I r18)] [sv_I r94] (sv_sts (sv_sts S [1020, 1021, 1022, 1023, 5, 1011, 3, 4, 1007, 1009, 11, 12, 13, 14, 1024, 15, 16, 1031, 1032, 17, 18, 19, 20, 21, 22, 23, 24, 25, 1042, 1043, 1044, 1045, 1100001, 1100002, 1100005, 1100003, 1100004, 1100018, 1100019, 1100016, 1100035, 1100036] g5) [1021, 1022] g90)
        have md95 : sv_mod [1020, 1021, 1022, 1023, 5, 1011, 3, 4, 1007, 1009, 11, 12, 13, 14, 1024, 15, 16, 1031, 1032, 17, 18, 19, 20, 21, 22, 23, 24, 25, 1042, 1043, 1044, 1045, 1100001, 1100002, 1100005, 1100003, 1100004, 1100018, 1100019, 1100016, 1100035, 1100036] S (sv_sts (sv_sts S [1020, 1021, 1022, 1023, 5, 1011, 3, 4, 1007, 1009, 11, 12, 13, 14, 1024, 15, 16, 1031, 1032, 17, 18, 19, 20, 21, 22, 23, 24, 25, 1042, 1043, 1044, 1045, 1100001, 1100002, 1100005, 1100003, 1100004, 1100018, 1100019, 1100016, 1100035, 1100036] g5) [1021, 1022] g90) := sv_mod.sts md10 (by decide)
        have h := h r94 hr94 g90 hpo93
        refine sv_popI hM dX12_assigned_40 rfl ?_
        refine sv_iconst (d := (-1 : Int)) hM dX12_assigned_41 rfl rfl ?_
        exact sv_iret hM dX12_assigned_42 rfl rfl ⟨(-1 : Int), rfl, (⟨by decide, by decide⟩ : sv_R (-1 : Int)), ok91, md95, h⟩
    · have h := h.2 (hc)
      refine sv_iload_n hM dX12_assigned_25 rfl rfl ?_
      exact sv_iret hM dX12_assigned_26 rfl rfl ⟨r9, rfl, hr9, ok15, md10, h⟩
  · have h := h.2 (hc)
    refine sv_iconst (d := (-1 : Int)) hM dX12_assigned_13 rfl rfl ?_
    exact sv_iret hM dX12_assigned_14 rfl rfl ⟨(-1 : Int), rfl, (⟨by decide, by decide⟩ : sv_R (-1 : Int)), ok6, md10, h⟩
theorem la_conditional_0 {x0 : Int} (h0 : 0 ≤ x0) (h1 : x0 ≤ 1) : 0 ≤ x0 ∧ x0 ≤ 1 := by omega
theorem la_conditional_1 : (0 : Int) ≤ 0 ∧ (0 : Int) ≤ 10 := by omega
theorem la_conditional_2 {x0 : Int} (h0 : 0 < x0) : ¬ x0 = 0 := by omega
theorem la_conditional_3 {x0 : Int} (h0 : x0 = 10) : 0 ≤ x0 := by omega
theorem la_conditional_4 {x0 : Int} (h0 : 0 ≤ x0) (h1 : ¬ 0 < x0) : x0 = 0 := by omega
theorem la_conditional_5 {x0 x1 : Int} (h0 : x0 = 30 * (20 - x1) + (23 - 0)) (h1 : x1 ≤ 20) : 0 ≤ x0 := by omega
theorem la_conditional_6 {x0 x1 x2 : Int} (h0 : x0 = x1) (h1 : x0 = 11) (h2 : x2 = 10) : x2 < x1 := by omega
theorem la_conditional_7 {x0 x1 x2 x3 : Int} (h0 : x0 = x1) (h1 : x0 = 30 * (20 - x2) + 24) (h2 : x3 = 30 * (20 - x2) + (23 - 0)) : x3 < x1 := by omega
theorem la_conditional_8 {x0 x1 : Int} (h0 : x0 = 11) (h1 : x1 = 10) : x1 + 1 ≤ x0 := by omega
theorem la_conditional_9 {x0 x1 x2 : Int} (h0 : x0 = 30 * (20 - x1) + 24) (h1 : x2 = 30 * (20 - x1) + (23 - 0)) : x2 + 1 ≤ x0 := by omega
theorem la_conditional_10 {x0 : Int} (h0 : x0 = 0) : ¬ 0 < x0 := by omega
theorem la_conditional_11 {x0 x1 x2 x3 x4 x5 x6 : Int} (h0 : x0 ≤ x1 + 2 * (x2 - x3) + 2 * x4) (h1 : x5 = 30 * (20 - x6) + 24) (h2 : x4 = 30 * (20 - x6) + (23 - 0)) : x0 ≤ x1 + 2 * (x2 - x3) + 2 * x5 := by omega
theorem la_conditional_12 {x0 : Int} (h0 : 0 ≤ x0) (h1 : ¬ x0 = 0) : 0 < x0 := by omega
theorem la_conditional_13 {x0 x1 x2 x3 x4 : Int} (h0 : x0 = 11) (h1 : x1 = x2) (h2 : x3 = x4) : x3 ≤ x4 + 2 * (x1 - x2) + 2 * x0 := by omega
theorem la_conditional_14 {x0 x1 : Int} (h0 : 0 < x0) (h1 : x0 = 0) : 0 < x1 := by omega
theorem la_conditional_15 {x0 x1 : Int} (h0 : 0 ≤ x0) (h1 : 0 < x1) (h2 : x1 = 0) : x0 = 0 := by omega
theorem la_conditional_16 {x0 : Int} (h0 : 0 < x0) (h1 : x0 = 0) : False := by omega
theorem la_conditional_17 {x0 x1 x2 : Int} (h0 : 0 ≤ x0) (h1 : x1 ≤ 4001) (h2 : x2 < x1) (h3 : x0 < x2) : 0 ≤ x2 ∧ x2 ≤ 4000 := by omega
theorem la_conditional_18 {x0 x1 : Int} (h0 : x0 = 30 * (20 - x1) + 24) (h1 : x1 ≤ 20) : 0 + 1 ≤ x0 := by omega
theorem la_conditional_19 {x0 x1 x2 : Int} (h0 : 0 ≤ x0) (h1 : x1 ≤ 4001) (h2 : x2 < x1) (h3 : x0 < x2) : sv_R (x2 + 1) := by omega
theorem la_conditional_20 {x0 x1 : Int} (h0 : 0 ≤ x0) (h1 : x0 < x1) : 0 ≤ x1 + 1 := by omega
theorem la_conditional_21 {x0 x1 : Int} (h0 : 0 ≤ x0) (h1 : x0 < x1) : 0 ≤ x1 := by omega
theorem la_conditional_22 {x0 : Int} (h0 : x0 = 5) : 1 ≤ x0 := by omega
theorem la_conditional_23 {x0 : Int} (h0 : x0 = 5) : x0 ≤ 5 := by omega
theorem la_conditional_24 {x0 x1 : Int} (h0 : 1 ≤ x0) (h1 : x0 ≤ x1) : 1 ≤ x1 := by omega
theorem la_conditional_25 {x0 x1 x2 x3 : Int} (h0 : x0 < x1) (h1 : x1 = x2) (h2 : x3 = x0) : x3 < x2 := by omega
theorem la_conditional_26 {x0 x1 x2 : Int} (h0 : x0 = 0) (h1 : x1 = x2) (h2 : x2 = x0) : x1 = 0 := by omega
theorem la_conditional_27 {x0 x1 : Int} (h0 : (-1) ≤ x0) (h1 : x1 = x0) : (-1) ≤ x1 := by omega
theorem la_conditional_28 {x0 x1 x2 x3 : Int} (h0 : x0 < x1) (h1 : x2 = x0) (h2 : x1 ≤ x3) : x2 < x3 := by omega
theorem la_conditional_29 {x0 x1 : Int} (h0 : 0 ≤ x0) (h1 : x1 = x0) : 0 ≤ x1 := by omega
theorem la_conditional_30 {x0 x1 x2 x3 x4 x5 : Int} (h0 : x0 < x1) (h1 : x1 = x2) (h2 : x3 = x0) (h3 : x2 ≤ x4) (h4 : x5 = x4) : x3 < x5 := by omega
theorem la_conditional_31 {x0 x1 : Int} (h0 : x0 ≤ 1 + x1) : x0 ≤ 1 + (x1 + 1) := by omega
theorem la_conditional_32 {x0 x1 x2 : Int} (h0 : x0 = x1) (h1 : x2 ≤ 20) (h2 : x1 ≤ 3 * x2 + 5) : x0 ≤ 100 := by omega
theorem la_conditional_33 {x0 x1 x2 : Int} (h0 : x0 = x1) (h1 : x2 ≤ 20) (h2 : x1 ≤ x2) : x0 ≤ 30 := by omega
theorem la_conditional_34 {x0 x1 x2 x3 x4 x5 x6 x7 x8 x9 x10 x11 x12 : Int} (h0 : x0 = x1) (h1 : x2 = x3) (h2 : x4 = x5) (h3 : x6 = x7) (h4 : x8 + 1 ≤ x9 + 2 * (x10 - x11)) (h5 : 0 ≤ x7) (h6 : x7 ≤ 20) (h7 : x1 ≤ 3 * x7 + 5) (h8 : x9 ≤ 2 * x11) (h9 : x3 ≤ x7) (h10 : x5 ≤ x7) : x12 = 0 → 0 ≤ x6 ∧ x6 ≤ 20 ∧ x0 ≤ 3 * x6 + 5 ∧ x8 ≤ 2 * (x10 + 1) ∧ x2 ≤ x6 ∧ x4 ≤ x6 := by omega
theorem la_conditional_35 {x0 x1 x2 x3 : Int} (h0 : x0 = x1) (h1 : x2 = x3) (h2 : x0 = 30 * (20 - x3) + 24) (h3 : x3 ≤ 20) : 0 ≤ 30 * (20 - x2) + 14 ∧ 30 * (20 - x2) + 14 < x1 := by omega
theorem la_conditional_36 {x0 x1 x2 : Int} (h0 : x0 = x1) (h1 : x2 = 30 * (20 - x1) + 24) (h2 : x1 ≤ 20) : 0 ≤ 30 * (20 - x0) + 14 ∧ 30 * (20 - x0) + 14 + 1 ≤ x2 := by omega
theorem la_conditional_37 {x0 x1 x2 : Int} (h0 : 0 ≤ x0) (h1 : x0 < x1) (h2 : x1 + 1 ≤ x2) : 0 ≤ x2 := by omega
theorem la_conditional_38 {x0 x1 : Int} (h0 : x0 = 30 * (20 - x1) + 24) (h1 : x1 ≤ 20) : 1 + 1 ≤ x0 := by omega
theorem la_conditional_39 {x0 : Int} (h0 : x0 = 1) : 0 ≤ x0 := by omega
theorem la_conditional_40 {x0 x1 x2 x3 : Int} (h0 : 0 ≤ x0) (h1 : x0 < x1) (h2 : x2 = x3 + 1) (h3 : x1 + 1 < x3) : 0 ≤ x2 := by omega
theorem la_conditional_41 {x0 : Int} (h0 : x0 = 0) : 0 ≤ x0 := by omega
theorem la_conditional_42 {x0 x1 x2 : Int} (h0 : 1 ≤ x0) (h1 : x0 ≤ x1) (h2 : x1 ≤ x2) : 1 ≤ x2 := by omega
theorem la_conditional_43 {x0 x1 x2 x3 x4 x5 : Int} (h0 : x0 < x1) (h1 : x1 = x2) (h2 : x3 = x0) (h3 : x2 ≤ x4) (h4 : x5 = x3) : x5 < x4 := by omega
theorem la_conditional_44 {x0 x1 x2 x3 x4 : Int} (h0 : x0 < x1) (h1 : x1 = x2) (h2 : x3 = x0) (h3 : x4 = x3) : x4 < x2 := by omega
theorem la_conditional_45 {x0 x1 x2 : Int} (h0 : 0 ≤ x0) (h1 : x0 < x1) (h2 : x1 + 1 < x2) : 0 ≤ x2 := by omega
theorem la_conditional_46 {x0 x1 x2 : Int} (h0 : x0 = x1) (h1 : x2 = x0) : x2 = x1 := by omega
theorem la_conditional_47 {x0 x1 x2 x3 : Int} (h0 : x0 = 0) (h1 : x1 = x2) (h2 : x2 = x3) (h3 : x3 = x0) : x1 = 0 := by omega
theorem la_conditional_48 {x0 x1 x2 : Int} (h0 : (-1) ≤ x0) (h1 : x1 = x0) (h2 : x2 = x1) : (-1) ≤ x2 := by omega
theorem la_conditional_49 {x0 x1 x2 x3 x4 x5 : Int} (h0 : x0 < x1) (h1 : x2 = x0) (h2 : x1 ≤ x3) (h3 : x4 = x2) (h4 : x3 ≤ x5) : x4 < x5 := by omega
theorem la_conditional_50 {x0 x1 x2 : Int} (h0 : 0 ≤ x0) (h1 : x1 = x0) (h2 : x2 = x1) : 0 ≤ x2 := by omega
theorem la_conditional_51 {x0 x1 x2 x3 x4 x5 x6 x7 : Int} (h0 : x0 < x1) (h1 : x1 = x2) (h2 : x3 = x0) (h3 : x2 ≤ x4) (h4 : x5 = x3) (h5 : x4 ≤ x6) (h6 : x7 = x6) : x5 < x7 := by omega
theorem la_conditional_52 {x0 x1 x2 : Int} (h0 : x0 ≤ 1 + x1) (h1 : x2 = x1 + 1) : x0 ≤ 1 + x2 := by omega
theorem la_conditional_53 {x0 x1 x2 : Int} (h0 : x0 ≤ 100) (h1 : x1 = x0) (h2 : x2 = x1) : x2 ≤ 100 := by omega
theorem la_conditional_54 {x0 x1 x2 : Int} (h0 : x0 ≤ 30) (h1 : x1 = x0) (h2 : x2 = x1) : x2 ≤ 30 := by omega
theorem la_conditional_55 {x0 x1 x2 x3 x4 x5 x6 x7 x8 x9 x10 x11 x12 x13 x14 x15 x16 x17 x18 x19 : Int} (h0 : x0 = x1) (h1 : x2 = x3) (h2 : x4 = x5) (h3 : x6 = x7) (h4 : x8 + 1 ≤ x9 + 2 * (x10 - x11)) (h5 : 0 ≤ x7) (h6 : x7 ≤ 20) (h7 : x1 ≤ 3 * x7 + 5) (h8 : x9 ≤ 2 * x11) (h9 : x3 ≤ x7) (h10 : x5 ≤ x7) (h11 : x12 = x0) (h12 : x13 = x2) (h13 : x14 = x4) (h14 : x15 = x16 + 1) (h15 : x17 = x6) (h16 : x18 + 1 ≤ x8 + 2 * (x16 - (x10 + 1))) : x19 = 0 → 0 ≤ x17 ∧ x17 ≤ 20 ∧ x12 ≤ 3 * x17 + 5 ∧ x18 ≤ 2 * x15 ∧ x13 ≤ x17 ∧ x14 ≤ x17 := by omega
theorem la_conditional_56 {x0 x1 x2 x3 x4 : Int} (h0 : x0 = x1) (h1 : x2 = x3) (h2 : x0 = 30 * (20 - x3) + 24) (h3 : x3 ≤ 20) (h4 : x4 = x2) : 0 ≤ 30 * (20 - x4) + 14 ∧ 30 * (20 - x4) + 14 < x1 := by omega
theorem la_conditional_57 {x0 x1 x2 x3 : Int} (h0 : x0 = x1) (h1 : x2 = 30 * (20 - x1) + 24) (h2 : x1 ≤ 20) (h3 : x3 = x0) : 0 ≤ 30 * (20 - x3) + 14 ∧ 30 * (20 - x3) + 14 + 1 ≤ x2 := by omega
theorem la_conditional_58 {x0 x1 x2 : Int} (h0 : 0 ≤ x0) (h1 : x0 < x1) (h2 : x1 ≤ x2) : 0 ≤ x2 := by omega
theorem la_conditional_59 {x0 x1 x2 x3 x4 x5 x6 x7 x8 x9 x10 x11 x12 x13 x14 : Int} (h0 : x0 ≤ 4001) (h1 : x1 = x2) (h2 : x3 + 1 ≤ x4 + 2 * (x5 - x6)) (h3 : 0 ≤ x2) (h4 : x4 ≤ 2 * x6) (h5 : x7 = x8 + 1) (h6 : x9 = x1) (h7 : x10 + 1 ≤ x3 + 2 * (x8 - (x5 + 1))) (h8 : x11 < x0) (h9 : 0 ≤ x12) (h10 : x12 = 0 → x13 = x9 ∧ x14 + 1 ≤ x10 + 2 * (x11 - x7)) (h11 : 0 < x12 → x14 ≤ x10 + 2 * (x11 - x7) + 2 * (30 * (20 - x9) + 14)) : x14 < 12000 := by omega
theorem la_conditional_60 {x0 x1 x2 x3 : Int} (h0 : (-1) ≤ x0) (h1 : x1 = x0) (h2 : x2 = x1) (h3 : x3 = x2) : (-1) ≤ x3 := by omega
theorem la_conditional_61 {x0 x1 x2 x3 x4 x5 x6 x7 : Int} (h0 : x0 < x1) (h1 : x2 = x0) (h2 : x1 ≤ x3) (h3 : x4 = x2) (h4 : x3 ≤ x5) (h5 : x6 = x4) (h6 : x5 ≤ x7) : x6 < x7 := by omega
theorem la_conditional_62 {x0 : Int} (h0 : 0 ≤ x0) (h1 : x0 ≤ 20) : sv_R (17 * (20 - x0) + 17) := by omega
theorem la_conditional_63 {x0 : Int} (h0 : 0 ≤ x0) (h1 : x0 ≤ 20) : sv_R (20 - x0) := by omega
theorem la_conditional_64 {x0 x1 x2 x3 x4 : Int} (h0 : x0 < x1) (h1 : x2 = x3 + 1) (h2 : x1 + 1 < x3) (h3 : x2 ≤ x4) : x0 ≤ x4 := by omega
theorem la_conditional_65 {x0 x1 : Int} (h0 : ¬ 0 < x0) : 0 < x0 → 0 < x1 := by omega
theorem la_conditional_66 {x0 x1 x2 x3 : Int} (h0 : x0 ≤ x1) (h1 : x1 ≤ x2) (h2 : x2 ≤ x3) : x0 ≤ x3 := by omega
theorem la_conditional_67 {x0 x1 x2 x3 : Int} (h0 : x0 = 1 → x1 = 1) (h1 : x1 = 1 → x2 = 1) (h2 : x2 = 1 → x3 = 1) : x0 = 1 → x3 = 1 := by omega
theorem la_conditional_68 {x0 x1 x2 x3 : Int} : (14 : Int) = 20 → x0 = (-1) ∨ 0 ≤ x0 ∧ x0 < x1 ∧ x2 = x3 := by omega
theorem la_conditional_69 {x0 x1 x2 x3 x4 x5 : Int} : (14 : Int) = 24 → (x0 = (-1) ∨ 0 ≤ x0 ∧ x0 < x1 ∧ x2 = x3) ∧ (x4 = (-1) ∨ 0 ≤ x4 ∧ x4 < x1 ∧ x5 = x3) := by omega
theorem la_conditional_70 {x0 x1 x2 x3 : Int} : (14 : Int) = 25 ∨ (14 : Int) = 26 → x0 = (-1) ∨ 0 ≤ x0 ∧ x0 < x1 ∧ x2 = x3 := by omega
theorem la_conditional_71 {x0 x1 x2 : Int} (h0 : x0 = x1) (h1 : 0 ≤ x2) (h2 : x2 < x1) : 0 ≤ x0 := by omega
theorem la_conditional_72 {x0 x1 x2 x3 : Int} : (14 : Int) = 27 → x0 = (-1) ∨ 0 ≤ x0 ∧ x0 < x1 ∧ x2 = x3 := by omega
theorem la_conditional_73 {x0 x1 x2 : Int} (h0 : x0 = x1) (h1 : x2 = x1 + 1) : x0 < x2 := by omega
theorem la_conditional_74 {x0 x1 x2 x3 : Int} : (14 : Int) = 28 → x0 = (-1) ∨ 0 ≤ x0 ∧ x0 < x1 ∧ x2 = x3 := by omega
theorem la_conditional_75 {x0 x1 : Int} : (14 : Int) = 33 → x0 = (-1) ∧ x1 = (-1) := by omega
theorem la_conditional_76 {x0 : Int} : (14 : Int) = 34 ∨ (14 : Int) = 35 → x0 = (-1) := by omega
theorem la_conditional_77 {x0 : Int} : 17 * (20 - x0) + (15 - 0) ≤ 17 * (20 - x0) + 17 - 2 := by omega
theorem la_conditional_78 {x0 x1 x2 x3 : Int} (h0 : x0 ≤ x1) (h1 : x1 ≤ x2) (h2 : x3 = x2 + 1) : x0 ≤ x3 := by omega
theorem la_conditional_79 {x0 x1 : Int} (h0 : x0 = x1) : 17 * (20 - x0) ≤ 17 * (20 - x1) + 17 - 2 := by omega
theorem la_conditional_80 {x0 x1 : Int} (h0 : x0 = x1) : 19 - x0 ≤ 20 - x1 := by omega
theorem la_conditional_81 {x0 x1 x2 : Int} (h0 : x0 ≤ x1) (h1 : x2 = x1 + 1) : x0 ≤ x2 := by omega
theorem la_conditional_82 {x0 x1 x2 : Int} (h0 : x0 = x1) (h1 : x2 = x0) : 17 * (20 - x2) ≤ 17 * (20 - x1) + 17 - 2 := by omega
theorem la_conditional_83 {x0 x1 x2 : Int} (h0 : x0 = x1) (h1 : x2 = x0) : 19 - x2 ≤ 20 - x1 := by omega
theorem la_conditional_84 {x0 x1 : Int} (h0 : x0 = x1 + 1) : x1 ≤ x0 := by omega
theorem la_conditional_85 {x0 : Int} (h0 : x0 ≤ 20) : 0 ≤ 17 * (20 - x0) + 17 := by omega
theorem la_conditional_86 {x0 : Int} (h0 : x0 ≤ 20) : 0 ≤ 20 - x0 := by omega
theorem la_conditional_87 {x0 x1 x2 : Int} (h0 : x0 ≤ x1) (h1 : x1 ≤ x2) : x0 ≤ x2 := by omega
theorem la_conditional_88 {x0 x1 x2 x3 x4 : Int} (h0 : x0 ≤ x1) (h1 : x1 ≤ x2) (h2 : x2 ≤ x3) (h3 : x4 = x3) : x0 ≤ x4 := by omega
theorem la_conditional_89 {x0 x1 x2 : Int} (h0 : x0 ≤ x1) (h1 : x1 ≤ x2) : 8 * x0 ≤ 8 * x2 := by omega
theorem la_conditional_90 {x0 x1 : Int} (h0 : x0 ≤ x1) : 8 * x0 ≤ 8 * x1 := by omega
theorem la_conditional_91 {x0 x1 x2 x3 : Int} (h0 : x0 = x1) (h1 : x2 = x0) (h2 : x3 = x2) : x3 = x1 := by omega
theorem la_conditional_92 {x0 x1 x2 : Int} (h0 : x0 = x1) (h1 : x2 = x0) : x1 ≤ x2 := by omega
theorem la_conditional_93 {x0 x1 : Int} (h0 : x0 = x1) : x1 ≤ x0 := by omega
theorem la_conditional_94 {x0 x1 x2 x3 x4 : Int} (h0 : x0 ≤ x1) (h1 : x1 ≤ x2) (h2 : x2 ≤ x3) (h3 : x4 = x3 + 1) : x0 ≤ x4 := by omega
theorem la_conditional_95 {x0 x1 x2 x3 x4 x5 x6 x7 x8 x9 x10 x11 x12 x13 x14 : Int} (h0 : x0 = x1) (h1 : x2 + 1 ≤ x3 + 2 * (x4 - x5)) (h2 : x6 = x7 + 1) (h3 : x8 = x0) (h4 : x9 + 1 ≤ x2 + 2 * (x7 - (x4 + 1))) (h5 : 0 ≤ x10) (h6 : x10 = 0 → x11 = x8 ∧ x12 + 1 ≤ x9 + 2 * (x13 - x6)) (h7 : x14 = x12 + 1) : x10 = 0 → x11 = x1 ∧ x14 + 1 ≤ x3 + 2 * (x13 - x5) := by omega
theorem la_conditional_96 {x0 x1 x2 x3 x4 x5 x6 x7 x8 x9 x10 x11 x12 x13 x14 x15 : Int} (h0 : x0 = x1) (h1 : x2 + 1 ≤ x3 + 2 * (x4 - x5)) (h2 : x6 = 30 * (20 - x1) + 24) (h3 : x1 ≤ 20) (h4 : x7 = x8 + 1) (h5 : x9 = x0) (h6 : x10 + 1 ≤ x2 + 2 * (x8 - (x4 + 1))) (h7 : x11 = 0 → x12 = x9 ∧ x13 + 1 ≤ x10 + 2 * (x14 - x7)) (h8 : 0 < x11 → x13 ≤ x10 + 2 * (x14 - x7) + 2 * (30 * (20 - x9) + 14)) (h9 : x15 = x13 + 1) : 0 < x11 → x15 ≤ x3 + 2 * (x14 - x5) + 2 * x6 := by omega
theorem la_conditional_97 {x0 x1 x2 x3 : Int} (h0 : 0 ≤ x0) (h1 : x0 < x1) (h2 : x1 ≤ x2) (h3 : x3 = x2) : (-1) ≤ x3 := by omega
theorem la_conditional_98 {x0 x1 : Int} (h0 : x0 = x1) : ¬ x0 < x1 := by omega
theorem la_conditional_99 {x0 x1 x2 x3 x4 x5 x6 x7 x8 x9 x10 x11 x12 x13 x14 x15 : Int} (h0 : x0 ≤ 4001) (h1 : x1 = x2) (h2 : x3 + 1 ≤ x4 + 2 * (x5 - x6)) (h3 : 0 ≤ x2) (h4 : x4 ≤ 2 * x6) (h5 : x7 = x8 + 1) (h6 : x9 = x1) (h7 : x10 + 1 ≤ x3 + 2 * (x8 - (x5 + 1))) (h8 : x11 < x0) (h9 : 0 ≤ x12) (h10 : x12 = 0 → x13 = x9 ∧ x14 + 1 ≤ x10 + 2 * (x11 - x7)) (h11 : 0 < x12 → x14 ≤ x10 + 2 * (x11 - x7) + 2 * (30 * (20 - x9) + 14)) (h12 : x15 = x14) : x15 < 12000 := by omega
theorem la_conditional_100 {x0 x1 x2 x3 x4 : Int} (h0 : x0 < x1) (h1 : x2 = x3 + 1) (h2 : x1 + 1 < x3) (h3 : x2 < x4) : x0 < x4 := by omega
theorem la_conditional_101 : (1 : Int) = 1 := by omega
theorem la_conditional_102 {x0 : Int} : 17 * (20 - x0) + 17 ≤ 17 * (20 - x0) + 17 := by omega
theorem la_conditional_103 {x0 : Int} : 20 - x0 ≤ 20 - x0 := by omega
theorem la_conditional_104 {x0 : Int} (h0 : x0 = 14) : ¬ x0 = 2 := by omega
theorem la_conditional_105 {x0 x1 x2 : Int} (h0 : x0 < x1) (h1 : x2 = x0) : x2 < x1 := by omega
theorem la_conditional_106 {x0 x1 x2 x3 x4 : Int} (h0 : x0 < x1) (h1 : x1 ≤ x2) (h2 : x2 ≤ x3) (h3 : x4 = x0) : x4 < x3 := by omega
theorem la_conditional_107 {x0 x1 x2 x3 : Int} (h0 : x0 < x1) (h1 : x1 ≤ x2) (h2 : x2 ≤ x3) : x0 < x3 := by omega
theorem la_conditional_108 {x0 x1 x2 x3 : Int} (h0 : x0 < x1) (h1 : x1 ≤ x2) (h2 : x3 = x0) : x3 < x2 := by omega
theorem la_conditional_109 {x0 x1 x2 : Int} (h0 : x0 < x1) (h1 : x1 ≤ x2) : x0 < x2 := by omega
theorem la_conditional_110 {x0 : Int} : x0 = x0 := by omega
theorem la_conditional_111 {x0 x1 : Int} (h0 : x0 = x1) : x1 = x0 := by omega
theorem la_conditional_112 {x0 x1 : Int} (h0 : x0 = x1) : 5 * x1 = 5 * x0 := by omega
theorem la_conditional_113 {x0 x1 : Int} (h0 : x0 = x1) : 5 * x1 + 1 = 5 * x0 + 1 := by omega
theorem la_conditional_114 {x0 x1 : Int} (h0 : x0 = x1) : 5 * x1 + 2 = 5 * x0 + 2 := by omega
theorem la_conditional_115 {x0 x1 : Int} (h0 : x0 = x1) : 5 * x1 + 3 = 5 * x0 + 3 := by omega
theorem la_conditional_116 {x0 x1 : Int} (h0 : x0 = x1) : 5 * x1 + 4 = 5 * x0 + 4 := by omega
theorem la_conditional_117 {x0 : Int} (h0 : x0 = 14) (h1 : x0 = 7) : False := by omega
theorem la_conditional_118 {x0 : Int} (h0 : ¬ 0 < x0) (h1 : 0 < x0) : False := by omega
theorem la_conditional_119 {x0 x1 x2 x3 x4 x5 x6 : Int} (h0 : ¬ ¬ x0 = 0) : ¬ (x0 = 1 ∧ x1 = 0 ∧ x2 = 0 ∧ x3 = x4 + 1 ∧ x3 < x5 ∧ x6 = 5) := by omega
theorem la_conditional_120 {x0 x1 x2 x3 : Int} (h0 : x0 < x1) (h1 : x1 + 1 ≤ x2) (h2 : x3 = x2) : x0 ≤ x3 := by omega
theorem la_conditional_121 {x0 : Int} (h0 : 0 < x0) : 0 ≤ x0 := by omega
theorem la_conditional_122 {x0 x1 x2 : Int} (h0 : x0 = 1 → x1 = 1) (h1 : x1 = 1 → x2 = 1) : x0 = 1 → x2 = 1 := by omega
theorem la_conditional_123 {x0 x1 x2 : Int} (h0 : x0 ≤ 1 + x1) (h1 : x2 = x1) : x0 ≤ 1 + x2 := by omega
theorem la_conditional_124 {x0 x1 x2 x3 x4 x5 x6 : Int} (h0 : 0 < x0) : x0 = 0 → x1 = x2 ∧ x3 + 1 ≤ x4 + 2 * (x5 - x6) := by omega
theorem la_conditional_125 {x0 x1 x2 x3 x4 x5 x6 x7 x8 x9 x10 x11 x12 : Int} (h0 : x0 = x1) (h1 : x2 + 1 ≤ x3 + 2 * (x4 - x5)) (h2 : x6 = 30 * (20 - x1) + 24) (h3 : x1 ≤ 20) (h4 : 0 ≤ x7) (h5 : x7 = 0 → x8 = x0 ∧ x9 + 1 ≤ x2 + 2 * (x10 - (x4 + 1))) (h6 : 0 < x7 → x9 ≤ x2 + 2 * (x10 - (x4 + 1)) + 2 * (30 * (20 - x0) + 14)) (h7 : x11 = x10) : 0 < x12 → x9 ≤ x3 + 2 * (x11 - x5) + 2 * x6 := by omega
theorem la_conditional_126 : ((-1) : Int) ≤ (-1) := by omega
theorem la_conditional_127 : ((-1) : Int) < 12000 := by omega
theorem la_conditional_128 {x0 x1 x2 x3 : Int} (h0 : x0 < x1) (h1 : x1 + 1 ≤ x2) (h2 : x3 = x2) : x0 < x3 := by omega
theorem la_conditional_129 {x0 x1 x2 x3 x4 x5 : Int} (h0 : ¬ 0 < x0) : 0 < x0 → x1 ≤ x2 + 2 * (x3 - x4) + 2 * x5 := by omega
theorem la_conditional_130 {x0 : Int} : 17 * (20 - x0) + (15 - 0) ≤ 17 * (20 - x0) + 17 := by omega
set_option maxHeartbeats 8000000 in
theorem f_conditional : ∀ (d : Int) (p1 : Int) (S : sv_S), sm_ok S → (0 ≤ p1 ∧ p1 ≤ 1) → (0 ≤ (S 1020 0) ∧ (S 1020 0) < (S 1012 0) ∧ sm_TK (S 6) (S 8) (S 9) (S 10) (S 1012 0) ∧ 0 ≤ (S 1021 0) ∧ 0 ≤ (S 1004 0) ∧ (S 1004 0) ≤ 4000 ∧ 1 ≤ (S 1007 0) ∧ (S 1007 0) ≤ 90 ∧ sm_LN (S 4) 400 (S 1007 0) ∧ ((S 1021 0) = 0 → sm_WF (S 11) (S 12) (S 13) (S 1100001) (S 1100002) (S 1100005) (S 1100003) (S 1100004) (S 1024 0) (S 1007 0) (S 1009 0) (sm_fn (S 1032 0) (S 21) (S 1043 0)) ∧ sm_FT (S 11) (S 12) (S 13) (S 1100019) (S 17) (S 18) (S 21) (S 19) (S 20) (S 22) (S 1100016) (S 1024 0) (S 1007 0) (S 1009 0) (S 1032 0) (S 1032 0) ∧ sm_WG (S 1100001) (S 1100019) (S 1043 0) ∧ (S 1100016 (S 1043 0)) = 0 ∧ sm_RG (S 11) (S 12) (S 13) (S 1100035) (S 1024 0)) ∧ -1 ≤ (S 1100036 0) ∧ (S 1100036 0) < (S 1024 0) ∧ sm_HD (S 23) (S 24) (S 1100018 0) (S 1007 0) ∧ sm_HD (S 25) (fun _ : Int => (S 1042 0)) 1 (S 1007 0) ∧ 0 ≤ (S 1043 0) ∧ (S 1043 0) < (S 1100018 0) ∧ (S 1100018 0) = (S 1032 0) ∧ (S 1032 0) ≤ 1 + (S 1020 0) ∧ 0 ≤ (S 1031 0) ∧ (S 1031 0) ≤ 100 ∧ 0 ≤ (S 1044 0) ∧ (S 1044 0) ≤ 30 ∧ 0 ≤ (S 1045 0) ∧ (S 1045 0) ≤ 30 ∧ 0 ≤ (S 1024 0) ∧ ((S 1021 0) = 0 → 0 ≤ (S 1023 0) ∧ (S 1023 0) ≤ 20 ∧ (S 1031 0) ≤ 3 * (S 1023 0) + 5 ∧ (S 1024 0) ≤ 2 * (S 1020 0) ∧ (S 1044 0) ≤ (S 1023 0) ∧ (S 1045 0) ≤ (S 1023 0))) → ((if 0 < (S 1021 0) then 11 else 30 * (20 - (S 1023 0)) + 24)) = d → (0 ≤ p1 ∧ p1 ≤ 1) ∧ (0 ≤ (S 1020 0) ∧ (S 1020 0) < (S 1012 0) ∧ sm_TK (S 6) (S 8) (S 9) (S 10) (S 1012 0) ∧ 0 ≤ (S 1021 0) ∧ 0 ≤ (S 1004 0) ∧ (S 1004 0) ≤ 4000 ∧ 1 ≤ (S 1007 0) ∧ (S 1007 0) ≤ 90 ∧ sm_LN (S 4) 400 (S 1007 0) ∧ ((S 1021 0) = 0 → sm_WF (S 11) (S 12) (S 13) (S 1100001) (S 1100002) (S 1100005) (S 1100003) (S 1100004) (S 1024 0) (S 1007 0) (S 1009 0) (sm_fn (S 1032 0) (S 21) (S 1043 0)) ∧ sm_FT (S 11) (S 12) (S 13) (S 1100019) (S 17) (S 18) (S 21) (S 19) (S 20) (S 22) (S 1100016) (S 1024 0) (S 1007 0) (S 1009 0) (S 1032 0) (S 1032 0) ∧ sm_WG (S 1100001) (S 1100019) (S 1043 0) ∧ (S 1100016 (S 1043 0)) = 0 ∧ sm_RG (S 11) (S 12) (S 13) (S 1100035) (S 1024 0)) ∧ -1 ≤ (S 1100036 0) ∧ (S 1100036 0) < (S 1024 0) ∧ sm_HD (S 23) (S 24) (S 1100018 0) (S 1007 0) ∧ sm_HD (S 25) (fun _ : Int => (S 1042 0)) 1 (S 1007 0) ∧ 0 ≤ (S 1043 0) ∧ (S 1043 0) < (S 1100018 0) ∧ (S 1100018 0) = (S 1032 0) ∧ (S 1032 0) ≤ 1 + (S 1020 0) ∧ 0 ≤ (S 1031 0) ∧ (S 1031 0) ≤ 100 ∧ 0 ≤ (S 1044 0) ∧ (S 1044 0) ≤ 30 ∧ 0 ≤ (S 1045 0) ∧ (S 1045 0) ≤ 30 ∧ 0 ≤ (S 1024 0) ∧ ((S 1021 0) = 0 → 0 ≤ (S 1023 0) ∧ (S 1023 0) ≤ 20 ∧ (S 1031 0) ≤ 3 * (S 1023 0) + 5 ∧ (S 1024 0) ≤ 2 * (S 1020 0) ∧ (S 1044 0) ≤ (S 1023 0) ∧ (S 1045 0) ≤ (S 1023 0)) ∧ 0 ≤ (0 : Int) ∧ (0 : Int) ≤ 10) ∧ (0 ≤ ((if 0 < (S 1021 0) then 10 else 30 * (20 - (S 1023 0)) + (23 - (0 : Int)))) ∧ ((if 0 < (S 1021 0) then 10 else 30 * (20 - (S 1023 0)) + (23 - (0 : Int)))) < d) ∧ (0 ≤ ((if 0 < (S 1021 0) then 10 else 30 * (20 - (S 1023 0)) + (23 - (0 : Int)))) ∧ ((if 0 < (S 1021 0) then 10 else 30 * (20 - (S 1023 0)) + (23 - (0 : Int)))) + 1 ≤ ((if 0 < (S 1021 0) then 11 else 30 * (20 - (S 1023 0)) + 24))) ∧ (∀ r9 : Int, sv_R r9 → ∀ g5 : sv_S, ((S 1020 0) ≤ (g5 1020 0) ∧ (g5 1020 0) < (S 1012 0) ∧ 0 ≤ (g5 1021 0) ∧ (0 < (S 1021 0) → 0 < (g5 1021 0)) ∧ (S 1007 0) ≤ (g5 1007 0) ∧ (g5 1007 0) ≤ 90 ∧ sm_LN (g5 4) 400 (g5 1007 0) ∧ ((S 1009 0) = 1 → (g5 1009 0) = 1) ∧ ((g5 1021 0) = 0 → sm_WF (g5 11) (g5 12) (g5 13) (g5 1100001) (g5 1100002) (g5 1100005) (g5 1100003) (g5 1100004) (g5 1024 0) (g5 1007 0) (g5 1009 0) (sm_fn (g5 1032 0) (g5 21) (g5 1043 0)) ∧ sm_PX (S 11) (S 12) (S 13) (S 1100001) (S 1100002) (S 1100005) (S 1100003) (S 1100004) (g5 11) (g5 12) (g5 13) (g5 1100001) (g5 1100002) (g5 1100005) (g5 1100003) (g5 1100004) (S 1024 0) ∧ sm_FT (g5 11) (g5 12) (g5 13) (g5 1100019) (g5 17) (g5 18) (g5 21) (g5 19) (g5 20) (g5 22) (g5 1100016) (g5 1024 0) (g5 1007 0) (g5 1009 0) (g5 1032 0) (g5 1032 0) ∧ sm_WG (g5 1100001) (g5 1100019) (g5 1043 0) ∧ sm_F1 (S 1100019) (g5 1100019) (S 1024 0) ∧ sm_F1 (S 1100035) (g5 1100035) (S 1024 0) ∧ sm_F1 (S 17) (g5 17) (S 1032 0) ∧ sm_F1 (S 18) (g5 18) (S 1032 0) ∧ sm_F1 (S 21) (g5 21) (S 1032 0) ∧ sm_F1 (S 20) (g5 20) (S 1032 0) ∧ sm_F1 (S 22) (g5 22) (S 1032 0) ∧ sm_F1 (S 1100016) (g5 1100016) (S 1032 0) ∧ sm_F1 (S 19) (g5 19) (8 * (S 1032 0)) ∧ sm_FN (g5 1100016) (S 1032 0) (g5 1032 0) ∧ sm_RG (g5 11) (g5 12) (g5 13) (g5 1100035) (g5 1024 0)) ∧ (g5 1100036 0) = (S 1100036 0) ∧ sm_KL (S 15) (S 16) (g5 15) (g5 16) (S 1031 0) ∧ sm_HD (g5 23) (g5 24) (g5 1100018 0) (g5 1007 0) ∧ sm_HD (g5 25) (fun _ : Int => (g5 1042 0)) 1 (g5 1007 0) ∧ (g5 1031 0) = (S 1031 0) ∧ (g5 1043 0) = (S 1043 0) ∧ (g5 1044 0) = (S 1044 0) ∧ (g5 1045 0) = (S 1045 0) ∧ (S 1032 0) ≤ (g5 1032 0) ∧ (g5 1032 0) ≤ 1 + (g5 1020 0) ∧ (g5 1100018 0) = (g5 1032 0) ∧ (S 1024 0) ≤ (g5 1024 0) ∧ ((g5 1021 0) = 0 → (g5 1023 0) = (S 1023 0) ∧ (g5 1024 0) + 1 ≤ (S 1024 0) + 2 * ((g5 1020 0) - (S 1020 0))) ∧ (0 < (g5 1021 0) → (g5 1024 0) ≤ (S 1024 0) + 2 * ((g5 1020 0) - (S 1020 0)) + 2 * ((if 0 < (S 1021 0) then 10 else 30 * (20 - (S 1023 0)) + (23 - (0 : Int))))) ∧ -1 ≤ r9 ∧ r9 < 12000 ∧ ((g5 1021 0) = 0 → (S 1020 0) < (g5 1020 0) ∧ 1 ≤ (S 6 (S 1020 0)) ∧ sm_ex (g5 1100001) (g5 1100002) (g5 1100005) (g5 1024 0) 1 r9 (17 * (20 - (S 1023 0)) + (15 - (0 : Int))) (20 - (S 1023 0)) ∧ ((g5 11 r9) = 2 ∨ (g5 11 r9) = 7 → (g5 1100002 r9) ≤ 17 * (20 - (S 1023 0)) + 2)) ∧ (0 < (S 1021 0) → (g5 1020 0) = (S 1020 0) ∧ (g5 1024 0) = (S 1024 0))) → (sv_R (g5 1021 0) → ((((0 : Int) < (g5 1021 0)) → ((S 1020 0) ≤ (g5 1020 0) ∧ (g5 1020 0) < (S 1012 0) ∧ 0 ≤ (g5 1021 0) ∧ (0 < (S 1021 0) → 0 < (g5 1021 0)) ∧ (S 1007 0) ≤ (g5 1007 0) ∧ (g5 1007 0) ≤ 90 ∧ sm_LN (g5 4) 400 (g5 1007 0) ∧ ((S 1009 0) = 1 → (g5 1009 0) = 1) ∧ ((g5 1021 0) = 0 → sm_WF (g5 11) (g5 12) (g5 13) (g5 1100001) (g5 1100002) (g5 1100005) (g5 1100003) (g5 1100004) (g5 1024 0) (g5 1007 0) (g5 1009 0) (sm_fn (g5 1032 0) (g5 21) (g5 1043 0)) ∧ sm_PX (S 11) (S 12) (S 13) (S 1100001) (S 1100002) (S 1100005) (S 1100003) (S 1100004) (g5 11) (g5 12) (g5 13) (g5 1100001) (g5 1100002) (g5 1100005) (g5 1100003) (g5 1100004) (S 1024 0) ∧ sm_FT (g5 11) (g5 12) (g5 13) (g5 1100019) (g5 17) (g5 18) (g5 21) (g5 19) (g5 20) (g5 22) (g5 1100016) (g5 1024 0) (g5 1007 0) (g5 1009 0) (g5 1032 0) (g5 1032 0) ∧ sm_WG (g5 1100001) (g5 1100019) (g5 1043 0) ∧ sm_F1 (S 1100019) (g5 1100019) (S 1024 0) ∧ sm_F1 (S 1100035) (g5 1100035) (S 1024 0) ∧ sm_F1 (S 17) (g5 17) (S 1032 0) ∧ sm_F1 (S 18) (g5 18) (S 1032 0) ∧ sm_F1 (S 21) (g5 21) (S 1032 0) ∧ sm_F1 (S 20) (g5 20) (S 1032 0) ∧ sm_F1 (S 22) (g5 22) (S 1032 0) ∧ sm_F1 (S 1100016) (g5 1100016) (S 1032 0) ∧ sm_F1 (S 19) (g5 19) (8 * (S 1032 0)) ∧ sm_FN (g5 1100016) (S 1032 0) (g5 1032 0) ∧ sm_RG (g5 11) (g5 12) (g5 13) (g5 1100035) (g5 1024 0)) ∧ (g5 1100036 0) = (S 1100036 0) ∧ sm_KL (S 15) (S 16) (g5 15) (g5 16) (S 1031 0) ∧ sm_HD (g5 23) (g5 24) (g5 1100018 0) (g5 1007 0) ∧ sm_HD (g5 25) (fun _ : Int => (g5 1042 0)) 1 (g5 1007 0) ∧ (g5 1031 0) = (S 1031 0) ∧ (g5 1043 0) = (S 1043 0) ∧ (g5 1044 0) = (S 1044 0) ∧ (g5 1045 0) = (S 1045 0) ∧ (S 1032 0) ≤ (g5 1032 0) ∧ (g5 1032 0) ≤ 1 + (g5 1020 0) ∧ (g5 1100018 0) = (g5 1032 0) ∧ (S 1024 0) ≤ (g5 1024 0) ∧ ((g5 1021 0) = 0 → (g5 1023 0) = (S 1023 0) ∧ (g5 1024 0) + 1 ≤ (S 1024 0) + 2 * ((g5 1020 0) - (S 1020 0))) ∧ (0 < (g5 1021 0) → (g5 1024 0) ≤ (S 1024 0) + 2 * ((g5 1020 0) - (S 1020 0)) + 2 * ((if 0 < (S 1021 0) then 11 else 30 * (20 - (S 1023 0)) + 24))) ∧ -1 ≤ r9 ∧ r9 < 12000 ∧ ((g5 1021 0) = 0 → (S 1020 0) < (g5 1020 0) ∧ 1 ≤ (S 6 (S 1020 0)) ∧ sm_ex (g5 1100001) (g5 1100002) (g5 1100005) (g5 1024 0) 1 r9 (17 * (20 - (S 1023 0)) + 17) (20 - (S 1023 0)) ∧ ((g5 11 r9) = 2 ∨ (g5 11 r9) = 7 → (g5 1100002 r9) ≤ 17 * (20 - (S 1023 0)) + 2)) ∧ (0 < (S 1021 0) → (g5 1020 0) = (S 1020 0) ∧ (g5 1024 0) = (S 1024 0)))) ∧ ((¬ ((0 : Int) < (g5 1021 0))) → (0 ≤ (g5 1020 0) ∧ (g5 1020 0) ≤ 4000) ∧ (0 + 1 ≤ ((if 0 < (S 1021 0) then 11 else 30 * (20 - (S 1023 0)) + 24))) ∧ ((((S 6 (g5 1020 0)) = 5 ∧ (S 7 (g5 1020 0)) = (45 : Int)) → (sv_R (g5 1020 0) → (sv_R ((g5 1020 0) + (1 : Int))) ∧ (0 ≤ ((g5 1020 0) + (1 : Int)) ∧ ((g5 1020 0) + (1 : Int)) < (S 1012 0) ∧ sm_TK (S 6) (S 8) (S 9) (S 10) (S 1012 0) ∧ 0 ≤ (g5 1021 0) ∧ 0 ≤ (S 1004 0) ∧ (S 1004 0) ≤ 4000 ∧ 1 ≤ (g5 1007 0) ∧ (g5 1007 0) ≤ 90 ∧ sm_LN (g5 4) 400 (g5 1007 0) ∧ ((g5 1021 0) = 0 → sm_WF (g5 11) (g5 12) (g5 13) (g5 1100001) (g5 1100002) (g5 1100005) (g5 1100003) (g5 1100004) (g5 1024 0) (g5 1007 0) (g5 1009 0) (sm_fn (g5 1032 0) (g5 21) (g5 1043 0)) ∧ sm_FT (g5 11) (g5 12) (g5 13) (g5 1100019) (g5 17) (g5 18) (g5 21) (g5 19) (g5 20) (g5 22) (g5 1100016) (g5 1024 0) (g5 1007 0) (g5 1009 0) (g5 1032 0) (g5 1032 0) ∧ sm_WG (g5 1100001) (g5 1100019) (g5 1043 0) ∧ (g5 1100016 (g5 1043 0)) = 0 ∧ sm_RG (g5 11) (g5 12) (g5 13) (g5 1100035) (g5 1024 0)) ∧ -1 ≤ (g5 1100036 0) ∧ (g5 1100036 0) < (g5 1024 0) ∧ sm_HD (g5 23) (g5 24) (g5 1100018 0) (g5 1007 0) ∧ sm_HD (g5 25) (fun _ : Int => (g5 1042 0)) 1 (g5 1007 0) ∧ 0 ≤ (g5 1043 0) ∧ (g5 1043 0) < (g5 1100018 0) ∧ (g5 1100018 0) = (g5 1032 0) ∧ (g5 1032 0) ≤ 1 + ((g5 1020 0) + (1 : Int)) ∧ 0 ≤ (g5 1031 0) ∧ (g5 1031 0) ≤ 100 ∧ 0 ≤ (g5 1044 0) ∧ (g5 1044 0) ≤ 30 ∧ 0 ≤ (g5 1045 0) ∧ (g5 1045 0) ≤ 30 ∧ 0 ≤ (g5 1024 0) ∧ ((g5 1021 0) = 0 → 0 ≤ (g5 1023 0) ∧ (g5 1023 0) ≤ 20 ∧ (g5 1031 0) ≤ 3 * (g5 1023 0) + 5 ∧ (g5 1024 0) ≤ 2 * ((g5 1020 0) + (1 : Int)) ∧ (g5 1044 0) ≤ (g5 1023 0) ∧ (g5 1045 0) ≤ (g5 1023 0)) ∧ (g5 1021 0) = 0) ∧ (0 ≤ (30 * (20 - (g5 1023 0)) + 14) ∧ (30 * (20 - (g5 1023 0)) + 14) < d) ∧ (0 ≤ (30 * (20 - (g5 1023 0)) + 14) ∧ (30 * (20 - (g5 1023 0)) + 14) + 1 ≤ ((if 0 < (S 1021 0) then 11 else 30 * (20 - (S 1023 0)) + 24))) ∧ (∀ r25 : Int, sv_R r25 → ∀ g21 : sv_S, (((g5 1020 0) + (1 : Int)) ≤ (g21 1020 0) ∧ (g21 1020 0) < (S 1012 0) ∧ 0 ≤ (g21 1021 0) ∧ (0 < (g5 1021 0) → 0 < (g21 1021 0)) ∧ (g5 1007 0) ≤ (g21 1007 0) ∧ (g21 1007 0) ≤ 90 ∧ sm_LN (g21 4) 400 (g21 1007 0) ∧ ((g5 1009 0) = 1 → (g21 1009 0) = 1) ∧ ((g21 1021 0) = 0 → sm_WF (g21 11) (g21 12) (g21 13) (g21 1100001) (g21 1100002) (g21 1100005) (g21 1100003) (g21 1100004) (g21 1024 0) (g21 1007 0) (g21 1009 0) (sm_fn (g21 1032 0) (g21 21) (g21 1043 0)) ∧ sm_PX (g5 11) (g5 12) (g5 13) (g5 1100001) (g5 1100002) (g5 1100005) (g5 1100003) (g5 1100004) (g21 11) (g21 12) (g21 13) (g21 1100001) (g21 1100002) (g21 1100005) (g21 1100003) (g21 1100004) (g5 1024 0) ∧ sm_FT (g21 11) (g21 12) (g21 13) (g21 1100019) (g21 17) (g21 18) (g21 21) (g21 19) (g21 20) (g21 22) (g21 1100016) (g21 1024 0) (g21 1007 0) (g21 1009 0) (g21 1032 0) (g21 1032 0) ∧ sm_WG (g21 1100001) (g21 1100019) (g21 1043 0) ∧ sm_F1 (g5 1100019) (g21 1100019) (g5 1024 0) ∧ sm_F1 (g5 1100035) (g21 1100035) (g5 1024 0) ∧ sm_F1 (g5 17) (g21 17) (g5 1032 0) ∧ sm_F1 (g5 18) (g21 18) (g5 1032 0) ∧ sm_F1 (g5 21) (g21 21) (g5 1032 0) ∧ sm_F1 (g5 20) (g21 20) (g5 1032 0) ∧ sm_F1 (g5 22) (g21 22) (g5 1032 0) ∧ sm_F1 (g5 1100016) (g21 1100016) (g5 1032 0) ∧ sm_F1 (g5 19) (g21 19) (8 * (g5 1032 0)) ∧ sm_FN (g21 1100016) (g5 1032 0) (g21 1032 0) ∧ sm_RG (g21 11) (g21 12) (g21 13) (g21 1100035) (g21 1024 0)) ∧ (g21 1100036 0) = (g5 1100036 0) ∧ sm_KL (g5 15) (g5 16) (g21 15) (g21 16) (g5 1031 0) ∧ sm_HD (g21 23) (g21 24) (g21 1100018 0) (g21 1007 0) ∧ sm_HD (g21 25) (fun _ : Int => (g21 1042 0)) 1 (g21 1007 0) ∧ (g21 1031 0) = (g5 1031 0) ∧ (g21 1043 0) = (g5 1043 0) ∧ (g21 1044 0) = (g5 1044 0) ∧ (g21 1045 0) = (g5 1045 0) ∧ (g5 1032 0) ≤ (g21 1032 0) ∧ (g21 1032 0) ≤ 1 + (g21 1020 0) ∧ (g21 1100018 0) = (g21 1032 0) ∧ (g5 1024 0) ≤ (g21 1024 0) ∧ ((g21 1021 0) = 0 → (g21 1023 0) = (g5 1023 0) ∧ (g21 1024 0) + 1 ≤ (g5 1024 0) + 2 * ((g21 1020 0) - ((g5 1020 0) + (1 : Int)))) ∧ (0 < (g21 1021 0) → (g21 1024 0) ≤ (g5 1024 0) + 2 * ((g21 1020 0) - ((g5 1020 0) + (1 : Int))) + 2 * (30 * (20 - (g5 1023 0)) + 14)) ∧ -1 ≤ r25 ∧ r25 < 12000 ∧ ((g21 1021 0) = 0 → sm_ex (g21 1100001) (g21 1100002) (g21 1100005) (g21 1024 0) 1 r25 (17 * (20 - (g5 1023 0))) (19 - (g5 1023 0)) ∧ ((g5 1020 0) + (1 : Int)) < (g21 1020 0))) → (0 ≤ (g21 1020 0) ∧ (g21 1020 0) < (S 1012 0) ∧ sm_TK (S 6) (S 8) (S 9) (S 10) (S 1012 0) ∧ 0 ≤ (g21 1021 0)) ∧ (1 + 1 ≤ ((if 0 < (S 1021 0) then 11 else 30 * (20 - (S 1023 0)) + 24))) ∧ (∀ r33 : Int, sv_R r33 → ∀ g29 : sv_S, ((r33 = 0 ∧ 0 < (g29 1021 0) ∧ (g29 1020 0) = (g21 1020 0)) ∨ (r33 = 1 ∧ (g29 1021 0) = 0 ∧ (g21 1021 0) = 0 ∧ (g29 1020 0) = (g21 1020 0) + 1 ∧ (g29 1020 0) < (S 1012 0) ∧ (S 6 (g21 1020 0)) = 5)) → (((¬ r33 = (0 : Int)) → (0 ≤ (g29 1020 0) ∧ (g29 1020 0) < (S 1012 0) ∧ sm_TK (S 6) (S 8) (S 9) (S 10) (S 1012 0) ∧ 0 ≤ (g29 1021 0) ∧ 0 ≤ (S 1004 0) ∧ (S 1004 0) ≤ 4000 ∧ 1 ≤ (g21 1007 0) ∧ (g21 1007 0) ≤ 90 ∧ sm_LN (g21 4) 400 (g21 1007 0) ∧ ((g29 1021 0) = 0 → sm_WF (g21 11) (g21 12) (g21 13) (g21 1100001) (g21 1100002) (g21 1100005) (g21 1100003) (g21 1100004) (g21 1024 0) (g21 1007 0) (g21 1009 0) (sm_fn (g21 1032 0) (g21 21) (g21 1043 0)) ∧ sm_FT (g21 11) (g21 12) (g21 13) (g21 1100019) (g21 17) (g21 18) (g21 21) (g21 19) (g21 20) (g21 22) (g21 1100016) (g21 1024 0) (g21 1007 0) (g21 1009 0) (g21 1032 0) (g21 1032 0) ∧ sm_WG (g21 1100001) (g21 1100019) (g21 1043 0) ∧ (g21 1100016 (g21 1043 0)) = 0 ∧ sm_RG (g21 11) (g21 12) (g21 13) (g21 1100035) (g21 1024 0)) ∧ -1 ≤ (g21 1100036 0) ∧ (g21 1100036 0) < (g21 1024 0) ∧ sm_HD (g21 23) (g21 24) (g21 1100018 0) (g21 1007 0) ∧ sm_HD (g21 25) (fun _ : Int => (g21 1042 0)) 1 (g21 1007 0) ∧ 0 ≤ (g21 1043 0) ∧ (g21 1043 0) < (g21 1100018 0) ∧ (g21 1100018 0) = (g21 1032 0) ∧ (g21 1032 0) ≤ 1 + (g29 1020 0) ∧ 0 ≤ (g21 1031 0) ∧ (g21 1031 0) ≤ 100 ∧ 0 ≤ (g21 1044 0) ∧ (g21 1044 0) ≤ 30 ∧ 0 ≤ (g21 1045 0) ∧ (g21 1045 0) ≤ 30 ∧ 0 ≤ (g21 1024 0) ∧ ((g29 1021 0) = 0 → 0 ≤ (g21 1023 0) ∧ (g21 1023 0) ≤ 20 ∧ (g21 1031 0) ≤ 3 * (g21 1023 0) + 5 ∧ (g21 1024 0) ≤ 2 * (g29 1020 0) ∧ (g21 1044 0) ≤ (g21 1023 0) ∧ (g21 1045 0) ≤ (g21 1023 0)) ∧ (g29 1021 0) = 0) ∧ (0 ≤ (30 * (20 - (g21 1023 0)) + 14) ∧ (30 * (20 - (g21 1023 0)) + 14) < d) ∧ (0 ≤ (30 * (20 - (g21 1023 0)) + 14) ∧ (30 * (20 - (g21 1023 0)) + 14) + 1 ≤ ((if 0 < (S 1021 0) then 11 else 30 * (20 - (S 1023 0)) + 24))) ∧ (∀ r42 : Int, sv_R r42 → ∀ g38 : sv_S, ((g29 1020 0) ≤ (g38 1020 0) ∧ (g38 1020 0) < (S 1012 0) ∧ 0 ≤ (g38 1021 0) ∧ (0 < (g29 1021 0) → 0 < (g38 1021 0)) ∧ (g21 1007 0) ≤ (g38 1007 0) ∧ (g38 1007 0) ≤ 90 ∧ sm_LN (g38 4) 400 (g38 1007 0) ∧ ((g21 1009 0) = 1 → (g38 1009 0) = 1) ∧ ((g38 1021 0) = 0 → sm_WF (g38 11) (g38 12) (g38 13) (g38 1100001) (g38 1100002) (g38 1100005) (g38 1100003) (g38 1100004) (g38 1024 0) (g38 1007 0) (g38 1009 0) (sm_fn (g38 1032 0) (g38 21) (g38 1043 0)) ∧ sm_PX (g21 11) (g21 12) (g21 13) (g21 1100001) (g21 1100002) (g21 1100005) (g21 1100003) (g21 1100004) (g38 11) (g38 12) (g38 13) (g38 1100001) (g38 1100002) (g38 1100005) (g38 1100003) (g38 1100004) (g21 1024 0) ∧ sm_FT (g38 11) (g38 12) (g38 13) (g38 1100019) (g38 17) (g38 18) (g38 21) (g38 19) (g38 20) (g38 22) (g38 1100016) (g38 1024 0) (g38 1007 0) (g38 1009 0) (g38 1032 0) (g38 1032 0) ∧ sm_WG (g38 1100001) (g38 1100019) (g38 1043 0) ∧ sm_F1 (g21 1100019) (g38 1100019) (g21 1024 0) ∧ sm_F1 (g21 1100035) (g38 1100035) (g21 1024 0) ∧ sm_F1 (g21 17) (g38 17) (g21 1032 0) ∧ sm_F1 (g21 18) (g38 18) (g21 1032 0) ∧ sm_F1 (g21 21) (g38 21) (g21 1032 0) ∧ sm_F1 (g21 20) (g38 20) (g21 1032 0) ∧ sm_F1 (g21 22) (g38 22) (g21 1032 0) ∧ sm_F1 (g21 1100016) (g38 1100016) (g21 1032 0) ∧ sm_F1 (g21 19) (g38 19) (8 * (g21 1032 0)) ∧ sm_FN (g38 1100016) (g21 1032 0) (g38 1032 0) ∧ sm_RG (g38 11) (g38 12) (g38 13) (g38 1100035) (g38 1024 0)) ∧ (g38 1100036 0) = (g21 1100036 0) ∧ sm_KL (g21 15) (g21 16) (g38 15) (g38 16) (g21 1031 0) ∧ sm_HD (g38 23) (g38 24) (g38 1100018 0) (g38 1007 0) ∧ sm_HD (g38 25) (fun _ : Int => (g38 1042 0)) 1 (g38 1007 0) ∧ (g38 1031 0) = (g21 1031 0) ∧ (g38 1043 0) = (g21 1043 0) ∧ (g38 1044 0) = (g21 1044 0) ∧ (g38 1045 0) = (g21 1045 0) ∧ (g21 1032 0) ≤ (g38 1032 0) ∧ (g38 1032 0) ≤ 1 + (g38 1020 0) ∧ (g38 1100018 0) = (g38 1032 0) ∧ (g21 1024 0) ≤ (g38 1024 0) ∧ ((g38 1021 0) = 0 → (g38 1023 0) = (g21 1023 0) ∧ (g38 1024 0) + 1 ≤ (g21 1024 0) + 2 * ((g38 1020 0) - (g29 1020 0))) ∧ (0 < (g38 1021 0) → (g38 1024 0) ≤ (g21 1024 0) + 2 * ((g38 1020 0) - (g29 1020 0)) + 2 * (30 * (20 - (g21 1023 0)) + 14)) ∧ -1 ≤ r42 ∧ r42 < 12000 ∧ ((g38 1021 0) = 0 → sm_ex (g38 1100001) (g38 1100002) (g38 1100005) (g38 1024 0) 1 r42 (17 * (20 - (g21 1023 0))) (19 - (g21 1023 0)) ∧ (g29 1020 0) < (g38 1020 0))) → (0 ≤ (g38 1024 0) ∧ (g38 1024 0) < 12000 ∧ -1 ≤ (g38 1100036 0) ∧ (g38 1100036 0) < (g38 1024 0)) ∧ (∀ r49 : Int, sv_R r49 → ∀ g45 : sv_S, (r49 = (g38 1024 0) ∧ (g45 1024 0) = (g38 1024 0) + 1 ∧ (g45 11 r49) = (14 : Int) ∧ (g45 12 (5 * r49)) = r9 ∧ (g45 12 (5 * r49 + 1)) = r25 ∧ (g45 12 (5 * r49 + 2)) = r42 ∧ (g45 12 (5 * r49 + 3)) = -1 ∧ (g45 12 (5 * r49 + 4)) = -1 ∧ (g45 13 r49) = -1 ∧ (g45 14 r49) = 0 ∧ (∀ n : Int, n < (g38 1024 0) → (g45 14 n) = (g38 14 n)) ∧ (sm_WF (g38 11) (g38 12) (g38 13) (g38 1100001) (g38 1100002) (g38 1100005) (g38 1100003) (g38 1100004) (g38 1024 0) (g38 1007 0) (g38 1009 0) (sm_fn (g38 1032 0) (g38 21) (g38 1043 0)) → sm_WF (g45 11) (g45 12) (g45 13) (g38 1100001) (g38 1100002) (g38 1100005) (g38 1100003) (g38 1100004) (g45 1024 0) (g38 1007 0) (g38 1009 0) (sm_fn (g38 1032 0) (g38 21) (g38 1043 0)) ∧ (g38 1100001 r49) = 0) ∧ sm_PX (g38 11) (g38 12) (g38 13) (g38 1100001) (g38 1100002) (g38 1100005) (g38 1100003) (g38 1100004) (g45 11) (g45 12) (g45 13) (g38 1100001) (g38 1100002) (g38 1100005) (g38 1100003) (g38 1100004) (g38 1024 0) ∧ (g45 1100019 r49) = (g38 1043 0) ∧ sm_F1 (g38 1100019) (g45 1100019) (g38 1024 0) ∧ (sm_WG (g38 1100001) (g38 1100019) (g38 1043 0) → sm_WG (g38 1100001) (g45 1100019) (g38 1043 0)) ∧ (sm_FT (g38 11) (g38 12) (g38 13) (g38 1100019) (g38 17) (g38 18) (g38 21) (g38 19) (g38 20) (g38 22) (g38 1100016) (g38 1024 0) (g38 1007 0) (g38 1009 0) (g38 1032 0) (g38 1032 0) → sm_FT (g45 11) (g45 12) (g45 13) (g45 1100019) (g38 17) (g38 18) (g38 21) (g38 19) (g38 20) (g38 22) (g38 1100016) (g45 1024 0) (g38 1007 0) (g38 1009 0) (g38 1032 0) (g38 1032 0)) ∧ (g45 1100035 r49) = (g38 1100036 0) ∧ sm_F1 (g38 1100035) (g45 1100035) (g38 1024 0) ∧ (sm_RG (g38 11) (g38 12) (g38 13) (g38 1100035) (g38 1024 0) → ((14 : Int) = 20 → (r9 = -1 ∨ (0 ≤ r9 ∧ r9 < (g38 1024 0) ∧ (g38 1100035 r9) = (g38 1100036 0)))) → ((14 : Int) = 24 → (r25 = -1 ∨ (0 ≤ r25 ∧ r25 < (g38 1024 0) ∧ (g38 1100035 r25) = (g38 1100036 0))) ∧ (r42 = -1 ∨ (0 ≤ r42 ∧ r42 < (g38 1024 0) ∧ (g38 1100035 r42) = (g38 1100036 0)))) → ((14 : Int) = 25 ∨ (14 : Int) = 26 → (r25 = -1 ∨ (0 ≤ r25 ∧ r25 < (g38 1024 0) ∧ (g38 1100035 r25) = (g38 1100036 0)))) → ((14 : Int) = 27 → (r9 = -1 ∨ (0 ≤ r9 ∧ r9 < (g38 1024 0) ∧ (g38 1100035 r9) = (g38 1100036 0)))) → ((14 : Int) = 28 → (r42 = -1 ∨ (0 ≤ r42 ∧ r42 < (g38 1024 0) ∧ (g38 1100035 r42) = (g38 1100036 0)))) → ((14 : Int) = 33 → r9 = -1 ∧ r42 = -1) → ((14 : Int) = 34 ∨ (14 : Int) = 35 → r25 = -1) → sm_RG (g45 11) (g45 12) (g45 13) (g45 1100035) (g45 1024 0))) → (sv_R ((17 * (20 - (S 1023 0)) + 17))) ∧ (sv_R ((20 - (S 1023 0)))) ∧ (((g38 1021 0) = 0 → sm_WG (g38 1100001) (g45 1100019) (g38 1043 0) → (g45 1100019 r49) = (g38 1043 0) → sm_WG (fun i' : Int => if i' = r49 then (1 : Int) else (g38 1100001) i') (g45 1100019) (g38 1043 0)) → (((g38 1021 0) = 0 → sm_WF (g45 11) (g45 12) (g45 13) (g38 1100001) (g38 1100002) (g38 1100005) (g38 1100003) (g38 1100004) (g45 1024 0) (g38 1007 0) (g38 1009 0) (sm_fn (g38 1032 0) (g38 21) (g38 1043 0)) → (g38 1100001 r49) = 0 → 0 ≤ r49 → r49 < (g45 1024 0) → (g45 13 r49) = -1 → (g45 11 r49) = 14 → (sm_ex (g38 1100001) (g38 1100002) (g38 1100005) (g45 1024 0) 1 (g45 12 (5 * r49)) ((17 * (20 - (S 1023 0)) + 17) - 2) (20 - (S 1023 0))) → (sm_ex (g38 1100001) (g38 1100002) (g38 1100005) (g45 1024 0) 1 (g45 12 (5 * r49 + 1)) ((17 * (20 - (S 1023 0)) + 17) - 2) (20 - (S 1023 0))) → (sm_ex (g38 1100001) (g38 1100002) (g38 1100005) (g45 1024 0) 1 (g45 12 (5 * r49 + 2)) ((17 * (20 - (S 1023 0)) + 17) - 2) (20 - (S 1023 0))) → (0 ≤ (17 * (20 - (S 1023 0)) + 17)) → (0 ≤ (20 - (S 1023 0))) → sm_WF (g45 11) (g45 12) (g45 13) (fun i' : Int => if i' = r49 then (1 : Int) else (g38 1100001) i') (fun i' : Int => if i' = r49 then ((17 * (20 - (S 1023 0)) + 17)) else (g38 1100002) i') (fun i' : Int => if i' = r49 then ((20 - (S 1023 0))) else (g38 1100005) i') (fun i' : Int => if i' = r49 then (0 : Int) else (g38 1100003) i') (fun i' : Int => if i' = r49 then (0 : Int) else (g38 1100004) i') (g45 1024 0) (g38 1007 0) (g38 1009 0) (sm_fn (g38 1032 0) (g38 21) (g38 1043 0))) → ((S 1020 0) ≤ (g38 1020 0) ∧ (g38 1020 0) < (S 1012 0) ∧ 0 ≤ (g38 1021 0) ∧ (0 < (S 1021 0) → 0 < (g38 1021 0)) ∧ (S 1007 0) ≤ (g38 1007 0) ∧ (g38 1007 0) ≤ 90 ∧ sm_LN (g38 4) 400 (g38 1007 0) ∧ ((S 1009 0) = 1 → (g38 1009 0) = 1) ∧ ((g38 1021 0) = 0 → sm_WF (g45 11) (g45 12) (g45 13) (fun i' : Int => if i' = r49 then (1 : Int) else (g38 1100001) i') (fun i' : Int => if i' = r49 then ((17 * (20 - (S 1023 0)) + 17)) else (g38 1100002) i') (fun i' : Int => if i' = r49 then ((20 - (S 1023 0))) else (g38 1100005) i') (fun i' : Int => if i' = r49 then (0 : Int) else (g38 1100003) i') (fun i' : Int => if i' = r49 then (0 : Int) else (g38 1100004) i') (g45 1024 0) (g38 1007 0) (g38 1009 0) (sm_fn (g38 1032 0) (g38 21) (g38 1043 0)) ∧ sm_PX (S 11) (S 12) (S 13) (S 1100001) (S 1100002) (S 1100005) (S 1100003) (S 1100004) (g45 11) (g45 12) (g45 13) (fun i' : Int => if i' = r49 then (1 : Int) else (g38 1100001) i') (fun i' : Int => if i' = r49 then ((17 * (20 - (S 1023 0)) + 17)) else (g38 1100002) i') (fun i' : Int => if i' = r49 then ((20 - (S 1023 0))) else (g38 1100005) i') (fun i' : Int => if i' = r49 then (0 : Int) else (g38 1100003) i') (fun i' : Int => if i' = r49 then (0 : Int) else (g38 1100004) i') (S 1024 0) ∧ sm_FT (g45 11) (g45 12) (g45 13) (g45 1100019) (g38 17) (g38 18) (g38 21) (g38 19) (g38 20) (g38 22) (g38 1100016) (g45 1024 0) (g38 1007 0) (g38 1009 0) (g38 1032 0) (g38 1032 0) ∧ sm_WG (fun i' : Int => if i' = r49 then (1 : Int) else (g38 1100001) i') (g45 1100019) (g38 1043 0) ∧ sm_F1 (S 1100019) (g45 1100019) (S 1024 0) ∧ sm_F1 (S 1100035) (g45 1100035) (S 1024 0) ∧ sm_F1 (S 17) (g38 17) (S 1032 0) ∧ sm_F1 (S 18) (g38 18) (S 1032 0) ∧ sm_F1 (S 21) (g38 21) (S 1032 0) ∧ sm_F1 (S 20) (g38 20) (S 1032 0) ∧ sm_F1 (S 22) (g38 22) (S 1032 0) ∧ sm_F1 (S 1100016) (g38 1100016) (S 1032 0) ∧ sm_F1 (S 19) (g38 19) (8 * (S 1032 0)) ∧ sm_FN (g38 1100016) (S 1032 0) (g38 1032 0) ∧ sm_RG (g45 11) (g45 12) (g45 13) (g45 1100035) (g45 1024 0)) ∧ (g38 1100036 0) = (S 1100036 0) ∧ sm_KL (S 15) (S 16) (g38 15) (g38 16) (S 1031 0) ∧ sm_HD (g38 23) (g38 24) (g38 1100018 0) (g38 1007 0) ∧ sm_HD (g38 25) (fun _ : Int => (g38 1042 0)) 1 (g38 1007 0) ∧ (g38 1031 0) = (S 1031 0) ∧ (g38 1043 0) = (S 1043 0) ∧ (g38 1044 0) = (S 1044 0) ∧ (g38 1045 0) = (S 1045 0) ∧ (S 1032 0) ≤ (g38 1032 0) ∧ (g38 1032 0) ≤ 1 + (g38 1020 0) ∧ (g38 1100018 0) = (g38 1032 0) ∧ (S 1024 0) ≤ (g45 1024 0) ∧ ((g38 1021 0) = 0 → (g38 1023 0) = (S 1023 0) ∧ (g45 1024 0) + 1 ≤ (S 1024 0) + 2 * ((g38 1020 0) - (S 1020 0))) ∧ (0 < (g38 1021 0) → (g45 1024 0) ≤ (S 1024 0) + 2 * ((g38 1020 0) - (S 1020 0)) + 2 * ((if 0 < (S 1021 0) then 11 else 30 * (20 - (S 1023 0)) + 24))) ∧ -1 ≤ r49 ∧ r49 < 12000 ∧ ((g38 1021 0) = 0 → (S 1020 0) < (g38 1020 0) ∧ 1 ≤ (S 6 (S 1020 0)) ∧ sm_ex (fun i' : Int => if i' = r49 then (1 : Int) else (g38 1100001) i') (fun i' : Int => if i' = r49 then ((17 * (20 - (S 1023 0)) + 17)) else (g38 1100002) i') (fun i' : Int => if i' = r49 then ((20 - (S 1023 0))) else (g38 1100005) i') (g45 1024 0) 1 r49 (17 * (20 - (S 1023 0)) + 17) (20 - (S 1023 0)) ∧ ((g45 11 r49) = 2 ∨ (g45 11 r49) = 7 → (if r49 = r49 then ((17 * (20 - (S 1023 0)) + 17)) else (g38 1100002 r49)) ≤ 17 * (20 - (S 1023 0)) + 2)) ∧ (0 < (S 1021 0) → (g38 1020 0) = (S 1020 0) ∧ (g45 1024 0) = (S 1024 0)))))))) ∧ ((¬ (¬ r33 = (0 : Int))) → ((S 1020 0) ≤ (g29 1020 0) ∧ (g29 1020 0) < (S 1012 0) ∧ 0 ≤ (g29 1021 0) ∧ (0 < (S 1021 0) → 0 < (g29 1021 0)) ∧ (S 1007 0) ≤ (g21 1007 0) ∧ (g21 1007 0) ≤ 90 ∧ sm_LN (g21 4) 400 (g21 1007 0) ∧ ((S 1009 0) = 1 → (g21 1009 0) = 1) ∧ ((g29 1021 0) = 0 → sm_WF (g21 11) (g21 12) (g21 13) (g21 1100001) (g21 1100002) (g21 1100005) (g21 1100003) (g21 1100004) (g21 1024 0) (g21 1007 0) (g21 1009 0) (sm_fn (g21 1032 0) (g21 21) (g21 1043 0)) ∧ sm_PX (S 11) (S 12) (S 13) (S 1100001) (S 1100002) (S 1100005) (S 1100003) (S 1100004) (g21 11) (g21 12) (g21 13) (g21 1100001) (g21 1100002) (g21 1100005) (g21 1100003) (g21 1100004) (S 1024 0) ∧ sm_FT (g21 11) (g21 12) (g21 13) (g21 1100019) (g21 17) (g21 18) (g21 21) (g21 19) (g21 20) (g21 22) (g21 1100016) (g21 1024 0) (g21 1007 0) (g21 1009 0) (g21 1032 0) (g21 1032 0) ∧ sm_WG (g21 1100001) (g21 1100019) (g21 1043 0) ∧ sm_F1 (S 1100019) (g21 1100019) (S 1024 0) ∧ sm_F1 (S 1100035) (g21 1100035) (S 1024 0) ∧ sm_F1 (S 17) (g21 17) (S 1032 0) ∧ sm_F1 (S 18) (g21 18) (S 1032 0) ∧ sm_F1 (S 21) (g21 21) (S 1032 0) ∧ sm_F1 (S 20) (g21 20) (S 1032 0) ∧ sm_F1 (S 22) (g21 22) (S 1032 0) ∧ sm_F1 (S 1100016) (g21 1100016) (S 1032 0) ∧ sm_F1 (S 19) (g21 19) (8 * (S 1032 0)) ∧ sm_FN (g21 1100016) (S 1032 0) (g21 1032 0) ∧ sm_RG (g21 11) (g21 12) (g21 13) (g21 1100035) (g21 1024 0)) ∧ (g21 1100036 0) = (S 1100036 0) ∧ sm_KL (S 15) (S 16) (g21 15) (g21 16) (S 1031 0) ∧ sm_HD (g21 23) (g21 24) (g21 1100018 0) (g21 1007 0) ∧ sm_HD (g21 25) (fun _ : Int => (g21 1042 0)) 1 (g21 1007 0) ∧ (g21 1031 0) = (S 1031 0) ∧ (g21 1043 0) = (S 1043 0) ∧ (g21 1044 0) = (S 1044 0) ∧ (g21 1045 0) = (S 1045 0) ∧ (S 1032 0) ≤ (g21 1032 0) ∧ (g21 1032 0) ≤ 1 + (g29 1020 0) ∧ (g21 1100018 0) = (g21 1032 0) ∧ (S 1024 0) ≤ (g21 1024 0) ∧ ((g29 1021 0) = 0 → (g21 1023 0) = (S 1023 0) ∧ (g21 1024 0) + 1 ≤ (S 1024 0) + 2 * ((g29 1020 0) - (S 1020 0))) ∧ (0 < (g29 1021 0) → (g21 1024 0) ≤ (S 1024 0) + 2 * ((g29 1020 0) - (S 1020 0)) + 2 * ((if 0 < (S 1021 0) then 11 else 30 * (20 - (S 1023 0)) + 24))) ∧ -1 ≤ (-1 : Int) ∧ (-1 : Int) < 12000 ∧ ((g29 1021 0) = 0 → (S 1020 0) < (g29 1020 0) ∧ 1 ≤ (S 6 (S 1020 0)) ∧ sm_ex (g21 1100001) (g21 1100002) (g21 1100005) (g21 1024 0) 1 (-1 : Int) (17 * (20 - (S 1023 0)) + 17) (20 - (S 1023 0)) ∧ ((g21 11 (-1 : Int)) = 2 ∨ (g21 11 (-1 : Int)) = 7 → (g21 1100002 (-1 : Int)) ≤ 17 * (20 - (S 1023 0)) + 2)) ∧ (0 < (S 1021 0) → (g29 1020 0) = (S 1020 0) ∧ (g21 1024 0) = (S 1024 0))))))))) ∧ ((¬ ((S 6 (g5 1020 0)) = 5 ∧ (S 7 (g5 1020 0)) = (45 : Int))) → ((S 1020 0) ≤ (g5 1020 0) ∧ (g5 1020 0) < (S 1012 0) ∧ 0 ≤ (g5 1021 0) ∧ (0 < (S 1021 0) → 0 < (g5 1021 0)) ∧ (S 1007 0) ≤ (g5 1007 0) ∧ (g5 1007 0) ≤ 90 ∧ sm_LN (g5 4) 400 (g5 1007 0) ∧ ((S 1009 0) = 1 → (g5 1009 0) = 1) ∧ ((g5 1021 0) = 0 → sm_WF (g5 11) (g5 12) (g5 13) (g5 1100001) (g5 1100002) (g5 1100005) (g5 1100003) (g5 1100004) (g5 1024 0) (g5 1007 0) (g5 1009 0) (sm_fn (g5 1032 0) (g5 21) (g5 1043 0)) ∧ sm_PX (S 11) (S 12) (S 13) (S 1100001) (S 1100002) (S 1100005) (S 1100003) (S 1100004) (g5 11) (g5 12) (g5 13) (g5 1100001) (g5 1100002) (g5 1100005) (g5 1100003) (g5 1100004) (S 1024 0) ∧ sm_FT (g5 11) (g5 12) (g5 13) (g5 1100019) (g5 17) (g5 18) (g5 21) (g5 19) (g5 20) (g5 22) (g5 1100016) (g5 1024 0) (g5 1007 0) (g5 1009 0) (g5 1032 0) (g5 1032 0) ∧ sm_WG (g5 1100001) (g5 1100019) (g5 1043 0) ∧ sm_F1 (S 1100019) (g5 1100019) (S 1024 0) ∧ sm_F1 (S 1100035) (g5 1100035) (S 1024 0) ∧ sm_F1 (S 17) (g5 17) (S 1032 0) ∧ sm_F1 (S 18) (g5 18) (S 1032 0) ∧ sm_F1 (S 21) (g5 21) (S 1032 0) ∧ sm_F1 (S 20) (g5 20) (S 1032 0) ∧ sm_F1 (S 22) (g5 22) (S 1032 0) ∧ sm_F1 (S 1100016) (g5 1100016) (S 1032 0) ∧ sm_F1 (S 19) (g5 19) (8 * (S 1032 0)) ∧ sm_FN (g5 1100016) (S 1032 0) (g5 1032 0) ∧ sm_RG (g5 11) (g5 12) (g5 13) (g5 1100035) (g5 1024 0)) ∧ (g5 1100036 0) = (S 1100036 0) ∧ sm_KL (S 15) (S 16) (g5 15) (g5 16) (S 1031 0) ∧ sm_HD (g5 23) (g5 24) (g5 1100018 0) (g5 1007 0) ∧ sm_HD (g5 25) (fun _ : Int => (g5 1042 0)) 1 (g5 1007 0) ∧ (g5 1031 0) = (S 1031 0) ∧ (g5 1043 0) = (S 1043 0) ∧ (g5 1044 0) = (S 1044 0) ∧ (g5 1045 0) = (S 1045 0) ∧ (S 1032 0) ≤ (g5 1032 0) ∧ (g5 1032 0) ≤ 1 + (g5 1020 0) ∧ (g5 1100018 0) = (g5 1032 0) ∧ (S 1024 0) ≤ (g5 1024 0) ∧ ((g5 1021 0) = 0 → (g5 1023 0) = (S 1023 0) ∧ (g5 1024 0) + 1 ≤ (S 1024 0) + 2 * ((g5 1020 0) - (S 1020 0))) ∧ (0 < (g5 1021 0) → (g5 1024 0) ≤ (S 1024 0) + 2 * ((g5 1020 0) - (S 1020 0)) + 2 * ((if 0 < (S 1021 0) then 11 else 30 * (20 - (S 1023 0)) + 24))) ∧ -1 ≤ r9 ∧ r9 < 12000 ∧ ((g5 1021 0) = 0 → (S 1020 0) < (g5 1020 0) ∧ 1 ≤ (S 6 (S 1020 0)) ∧ sm_ex (g5 1100001) (g5 1100002) (g5 1100005) (g5 1024 0) 1 r9 (17 * (20 - (S 1023 0)) + 17) (20 - (S 1023 0)) ∧ ((g5 11 r9) = 2 ∨ (g5 11 r9) = 7 → (g5 1100002 r9) ≤ 17 * (20 - (S 1023 0)) + 2)) ∧ (0 < (S 1021 0) → (g5 1020 0) = (S 1020 0) ∧ (g5 1024 0) = (S 1024 0))))))))) := by
  intro d
  intro p1
  intro S
  intro h1_
  rintro ⟨h2_, h3_⟩
  rintro ⟨h4_, ⟨h5_, ⟨h6_, ⟨h7_, ⟨h8_, ⟨h9_, ⟨h10_, ⟨h11_, ⟨h12_, ⟨h13_, ⟨h14_, ⟨h15_, ⟨h16_, ⟨h17_, ⟨h18_, ⟨h19_, ⟨h20_, ⟨h21_, ⟨h22_, ⟨h23_, ⟨h24_, ⟨h25_, ⟨h26_, ⟨h27_, ⟨h28_, h29_⟩⟩⟩⟩⟩⟩⟩⟩⟩⟩⟩⟩⟩⟩⟩⟩⟩⟩⟩⟩⟩⟩⟩⟩⟩
  intro h30_
  refine ⟨(la_conditional_0 h2_ h3_), ?_⟩
  refine ⟨⟨h4_, ⟨h5_, ⟨h6_, ⟨h7_, ⟨h8_, ⟨h9_, ⟨h10_, ⟨h11_, ⟨h12_, ⟨h13_, ⟨h14_, ⟨h15_, ⟨h16_, ⟨h17_, ⟨h18_, ⟨h19_, ⟨h20_, ⟨h21_, ⟨h22_, ⟨h23_, ⟨h24_, ⟨h25_, ⟨h26_, ⟨h27_, ⟨h28_, ⟨h29_, la_conditional_1⟩⟩⟩⟩⟩⟩⟩⟩⟩⟩⟩⟩⟩⟩⟩⟩⟩⟩⟩⟩⟩⟩⟩⟩⟩⟩, ?_⟩
  refine ⟨?_, ?_⟩
  · skip
    refine ⟨?_, ?_⟩
    · skip
      by_cases c31_ : 0 < S 1021 0
      · skip
        have e32_ : (if 0 < S 1021 0 then 11 else 30 * (20 - S 1023 0) + 24 : Int) = 11 := if_pos c31_
        have e33_ : (if 0 < S 1021 0 then 10 else 30 * (20 - S 1023 0) + (23 - 0) : Int) = 10 := if_pos c31_
        exact (la_conditional_3 e33_)
      · skip
        have e34_ : (if 0 < S 1021 0 then 11 else 30 * (20 - S 1023 0) + 24 : Int) = 30 * (20 - S 1023 0) + 24 := if_neg c31_
        have e35_ : (if 0 < S 1021 0 then 10 else 30 * (20 - S 1023 0) + (23 - 0) : Int) = 30 * (20 - S 1023 0) + (23 - 0) := if_neg c31_
        obtain ⟨h36_, ⟨h37_, ⟨h38_, ⟨h39_, ⟨h40_, h41_⟩⟩⟩⟩⟩ := (h29_ (la_conditional_4 h7_ c31_))
        obtain ⟨h42_, ⟨h43_, ⟨h44_, ⟨h45_, h46_⟩⟩⟩⟩ := (h13_ (la_conditional_4 h7_ c31_))
        exact (la_conditional_5 e35_ h37_)
    by_cases c47_ : 0 < S 1021 0
    · skip
      have e48_ : (if 0 < S 1021 0 then 11 else 30 * (20 - S 1023 0) + 24 : Int) = 11 := if_pos c47_
      have e49_ : (if 0 < S 1021 0 then 10 else 30 * (20 - S 1023 0) + (23 - 0) : Int) = 10 := if_pos c47_
      exact (la_conditional_6 h30_ e48_ e49_)
    · skip
      have e50_ : (if 0 < S 1021 0 then 11 else 30 * (20 - S 1023 0) + 24 : Int) = 30 * (20 - S 1023 0) + 24 := if_neg c47_
      have e51_ : (if 0 < S 1021 0 then 10 else 30 * (20 - S 1023 0) + (23 - 0) : Int) = 30 * (20 - S 1023 0) + (23 - 0) := if_neg c47_
      obtain ⟨h52_, ⟨h53_, ⟨h54_, ⟨h55_, ⟨h56_, h57_⟩⟩⟩⟩⟩ := (h29_ (la_conditional_4 h7_ c47_))
      obtain ⟨h58_, ⟨h59_, ⟨h60_, ⟨h61_, h62_⟩⟩⟩⟩ := (h13_ (la_conditional_4 h7_ c47_))
      exact (la_conditional_7 h30_ e50_ e51_)
  refine ⟨?_, ?_⟩
  · skip
    refine ⟨?_, ?_⟩
    · skip
      by_cases c63_ : 0 < S 1021 0
      · skip
        have e64_ : (if 0 < S 1021 0 then 11 else 30 * (20 - S 1023 0) + 24 : Int) = 11 := if_pos c63_
        have e65_ : (if 0 < S 1021 0 then 10 else 30 * (20 - S 1023 0) + (23 - 0) : Int) = 10 := if_pos c63_
        exact (la_conditional_3 e65_)
      · skip
        have e66_ : (if 0 < S 1021 0 then 11 else 30 * (20 - S 1023 0) + 24 : Int) = 30 * (20 - S 1023 0) + 24 := if_neg c63_
        have e67_ : (if 0 < S 1021 0 then 10 else 30 * (20 - S 1023 0) + (23 - 0) : Int) = 30 * (20 - S 1023 0) + (23 - 0) := if_neg c63_
        obtain ⟨h68_, ⟨h69_, ⟨h70_, ⟨h71_, ⟨h72_, h73_⟩⟩⟩⟩⟩ := (h29_ (la_conditional_4 h7_ c63_))
        obtain ⟨h74_, ⟨h75_, ⟨h76_, ⟨h77_, h78_⟩⟩⟩⟩ := (h13_ (la_conditional_4 h7_ c63_))
        exact (la_conditional_5 e67_ h69_)
    by_cases c79_ : 0 < S 1021 0
    · skip
      have e80_ : (if 0 < S 1021 0 then 11 else 30 * (20 - S 1023 0) + 24 : Int) = 11 := if_pos c79_
      have e81_ : (if 0 < S 1021 0 then 10 else 30 * (20 - S 1023 0) + (23 - 0) : Int) = 10 := if_pos c79_
      exact (la_conditional_8 e80_ e81_)
    · skip
      have e82_ : (if 0 < S 1021 0 then 11 else 30 * (20 - S 1023 0) + 24 : Int) = 30 * (20 - S 1023 0) + 24 := if_neg c79_
      have e83_ : (if 0 < S 1021 0 then 10 else 30 * (20 - S 1023 0) + (23 - 0) : Int) = 30 * (20 - S 1023 0) + (23 - 0) := if_neg c79_
      obtain ⟨h84_, ⟨h85_, ⟨h86_, ⟨h87_, ⟨h88_, h89_⟩⟩⟩⟩⟩ := (h29_ (la_conditional_4 h7_ c79_))
      obtain ⟨h90_, ⟨h91_, ⟨h92_, ⟨h93_, h94_⟩⟩⟩⟩ := (h13_ (la_conditional_4 h7_ c79_))
      exact (la_conditional_9 e82_ e83_)
  intro r9
  intro h95_
  intro g5
  rintro ⟨h96_, ⟨h97_, ⟨h98_, ⟨h99_, ⟨h100_, ⟨h101_, ⟨h102_, ⟨h103_, ⟨h104_, ⟨h105_, ⟨h106_, ⟨h107_, ⟨h108_, ⟨h109_, ⟨h110_, ⟨h111_, ⟨h112_, ⟨h113_, ⟨h114_, ⟨h115_, ⟨h116_, ⟨h117_, ⟨h118_, ⟨h119_, ⟨h120_, ⟨h121_, h122_⟩⟩⟩⟩⟩⟩⟩⟩⟩⟩⟩⟩⟩⟩⟩⟩⟩⟩⟩⟩⟩⟩⟩⟩⟩⟩
  intro h123_
  refine ⟨?_, ?_⟩
  · skip
    intro h124_
    have h125_ := (h118_ h124_)
    refine ⟨h96_, ?_⟩
    refine ⟨h97_, ?_⟩
    refine ⟨h98_, ?_⟩
    refine ⟨h99_, ?_⟩
    refine ⟨h100_, ?_⟩
    refine ⟨h101_, ?_⟩
    refine ⟨h102_, ?_⟩
    refine ⟨h103_, ?_⟩
    refine ⟨h104_, ?_⟩
    refine ⟨h105_, ?_⟩
    refine ⟨h106_, ?_⟩
    refine ⟨h107_, ?_⟩
    refine ⟨h108_, ?_⟩
    refine ⟨h109_, ?_⟩
    refine ⟨h110_, ?_⟩
    refine ⟨h111_, ?_⟩
    refine ⟨h112_, ?_⟩
    refine ⟨h113_, ?_⟩
    refine ⟨h114_, ?_⟩
    refine ⟨h115_, ?_⟩
    refine ⟨h116_, ?_⟩
    refine ⟨h117_, ?_⟩
    refine ⟨?_, ?_⟩
    · skip
      intro h126_
      by_cases c127_ : S 1021 0 = 0
      · skip
        have e128_ : (if 0 < S 1021 0 then 11 else 30 * (20 - S 1023 0) + 24 : Int) = 30 * (20 - S 1023 0) + 24 := if_neg (la_conditional_10 c127_)
        have e129_ : (if 0 < S 1021 0 then 10 else 30 * (20 - S 1023 0) + (23 - 0) : Int) = 30 * (20 - S 1023 0) + (23 - 0) := if_neg (la_conditional_10 c127_)
        obtain ⟨h130_, ⟨h131_, ⟨h132_, ⟨h133_, ⟨h134_, h135_⟩⟩⟩⟩⟩ := (h29_ c127_)
        obtain ⟨h136_, ⟨h137_, ⟨h138_, ⟨h139_, h140_⟩⟩⟩⟩ := (h13_ c127_)
        exact (la_conditional_11 h125_ e128_ e129_)
      · skip
        have e141_ : (if 0 < S 1021 0 then 11 else 30 * (20 - S 1023 0) + 24 : Int) = 11 := if_pos (la_conditional_12 h7_ c127_)
        have e142_ : (if 0 < S 1021 0 then 10 else 30 * (20 - S 1023 0) + (23 - 0) : Int) = 10 := if_pos (la_conditional_12 h7_ c127_)
        have h143_ := (h99_ (la_conditional_12 h7_ c127_))
        obtain ⟨h144_, h145_⟩ := (h122_ (la_conditional_12 h7_ c127_))
        exact (la_conditional_13 e141_ h144_ h145_)
    refine ⟨h119_, ?_⟩
    refine ⟨h120_, ?_⟩
    refine ⟨?_, ?_⟩
    · skip
      intro h146_
      have e147_ : (if 0 < S 1021 0 then 11 else 30 * (20 - S 1023 0) + 24 : Int) = 11 := if_pos (la_conditional_14 h124_ h146_)
      have e148_ : (if 0 < S 1021 0 then 10 else 30 * (20 - S 1023 0) + (23 - 0) : Int) = 10 := if_pos (la_conditional_14 h124_ h146_)
      obtain ⟨h149_, ⟨h150_, ⟨h151_, ⟨h152_, ⟨h153_, h154_⟩⟩⟩⟩⟩ := (h29_ (la_conditional_15 h7_ h124_ h146_))
      have h155_ := (h99_ (la_conditional_14 h124_ h146_))
      refine ⟨?_, ?_⟩
      · skip
        exact ((la_conditional_16 h124_ h146_)).elim
      refine ⟨?_, ?_⟩
      · skip
        exact ((la_conditional_16 h124_ h146_)).elim
      refine ⟨?_, ?_⟩
      · skip
        exact ((la_conditional_16 h124_ h146_)).elim
      intro h156_
      exact ((la_conditional_16 h124_ h146_)).elim
    intro h157_
    have e158_ : (if 0 < S 1021 0 then 11 else 30 * (20 - S 1023 0) + 24 : Int) = 11 := if_pos h157_
    have e159_ : (if 0 < S 1021 0 then 10 else 30 * (20 - S 1023 0) + (23 - 0) : Int) = 10 := if_pos h157_
    have h160_ := (h99_ h157_)
    obtain ⟨h161_, h162_⟩ := (h122_ h157_)
    refine ⟨h161_, ?_⟩
    exact h162_
  intro h163_
  have h164_ : ¬ (0 < S 1021 0) := fun q_ => h163_ (h99_ q_)
  obtain ⟨h165_, h166_⟩ := (h117_ (la_conditional_4 h98_ h163_))
  obtain ⟨h167_, ⟨h168_, ⟨h169_, ⟨h170_, h171_⟩⟩⟩⟩ := (h13_ (la_conditional_4 h7_ h164_))
  obtain ⟨h172_, ⟨h173_, ⟨h174_, ⟨h175_, ⟨h176_, ⟨h177_, ⟨h178_, ⟨h179_, ⟨h180_, ⟨h181_, ⟨h182_, ⟨h183_, ⟨h184_, ⟨h185_, h186_⟩⟩⟩⟩⟩⟩⟩⟩⟩⟩⟩⟩⟩⟩ := (h104_ (la_conditional_4 h98_ h163_))
  obtain ⟨h187_, ⟨h188_, ⟨h189_, h190_⟩⟩⟩ := (h121_ (la_conditional_4 h98_ h163_))
  have e191_ : (if 0 < S 1021 0 then 11 else 30 * (20 - S 1023 0) + 24 : Int) = 30 * (20 - S 1023 0) + 24 := if_neg h164_
  have e192_ : (if 0 < S 1021 0 then 10 else 30 * (20 - S 1023 0) + (23 - 0) : Int) = 30 * (20 - S 1023 0) + (23 - 0) := if_neg h164_
  obtain ⟨h193_, ⟨h194_, ⟨h195_, ⟨h196_, ⟨h197_, h198_⟩⟩⟩⟩⟩ := (h29_ (la_conditional_4 h7_ h164_))
  refine ⟨(la_conditional_17 h4_ (sm_TK_t h6_).2 h97_ h187_), ?_⟩
  refine ⟨(la_conditional_18 e191_ h194_), ?_⟩
  refine ⟨?_, ?_⟩
  · skip
    rintro ⟨h199_, h200_⟩
    intro h201_
    refine ⟨(la_conditional_19 h4_ (sm_TK_t h6_).2 h97_ h187_), ?_⟩
    refine ⟨?_, ?_⟩
    · skip
      refine ⟨(la_conditional_20 h4_ h187_), ?_⟩
      refine ⟨?_, ?_⟩
      · skip
        have h202_ := ((sm_TK_go h6_ (S 1020 0) h4_ h5_) h188_)
        have h203_ := ((sm_TK_go h6_ (g5 1020 0) (la_conditional_21 h4_ h187_) h97_) (la_conditional_22 h199_))
        have h204_ := (h203_ (la_conditional_23 h199_))
        exact h204_
      refine ⟨h6_, ?_⟩
      refine ⟨h98_, ?_⟩
      refine ⟨h8_, ?_⟩
      refine ⟨h9_, ?_⟩
      refine ⟨(la_conditional_24 h10_ h100_), ?_⟩
      refine ⟨h101_, ?_⟩
      refine ⟨h102_, ?_⟩
      refine ⟨?_, ?_⟩
      · skip
        intro h205_
        refine ⟨h172_, ?_⟩
        refine ⟨h174_, ?_⟩
        refine ⟨h175_, ?_⟩
        refine ⟨?_, ?_⟩
        · skip
          have h206_ := ((sm_TK_go h6_ (S 1020 0) h4_ h5_) h188_)
          have h207_ := ((sm_TK_go h6_ (g5 1020 0) (la_conditional_21 h4_ h187_) h97_) (la_conditional_22 h199_))
          have h208_ := (h207_ (la_conditional_23 h199_))
          have e209_ : S 1100016 (g5 1043 0) = S 1100016 (S 1043 0) := congrArg ((S 1100016)) h110_
          exact (la_conditional_26 h170_ (sm_F1_at h183_ (g5 1043 0) (la_conditional_25 h19_ h20_ h110_)) e209_)
        exact h186_
      refine ⟨(la_conditional_27 h14_ h105_), ?_⟩
      refine ⟨(la_conditional_28 h15_ h105_ h116_), ?_⟩
      refine ⟨h107_, ?_⟩
      refine ⟨h108_, ?_⟩
      refine ⟨(la_conditional_29 h18_ h110_), ?_⟩
      refine ⟨(la_conditional_30 h19_ h20_ h110_ h113_ h115_), ?_⟩
      refine ⟨h115_, ?_⟩
      refine ⟨(la_conditional_31 h114_), ?_⟩
      refine ⟨(la_conditional_29 h22_ h109_), ?_⟩
      refine ⟨(la_conditional_32 h109_ h194_ h195_), ?_⟩
      refine ⟨(la_conditional_29 h24_ h111_), ?_⟩
      refine ⟨(la_conditional_33 h111_ h194_ h197_), ?_⟩
      refine ⟨(la_conditional_29 h26_ h112_), ?_⟩
      refine ⟨(la_conditional_33 h112_ h194_ h198_), ?_⟩
      refine ⟨(la_conditional_21 (sm_ex_e h189_).1 (sm_ex_e h189_).2.1), ?_⟩
      refine ⟨(la_conditional_34 h109_ h111_ h112_ h165_ h166_ h193_ h194_ h195_ h196_ h197_ h198_), ?_⟩
      exact (la_conditional_4 h98_ h163_)
    refine ⟨(la_conditional_35 h30_ h165_ e191_ h194_), ?_⟩
    refine ⟨(la_conditional_36 h165_ e191_ h194_), ?_⟩
    intro r25
    intro h210_
    intro g21
    rintro ⟨h211_, ⟨h212_, ⟨h213_, ⟨h214_, ⟨h215_, ⟨h216_, ⟨h217_, ⟨h218_, ⟨h219_, ⟨h220_, ⟨h221_, ⟨h222_, ⟨h223_, ⟨h224_, ⟨h225_, ⟨h226_, ⟨h227_, ⟨h228_, ⟨h229_, ⟨h230_, ⟨h231_, ⟨h232_, ⟨h233_, ⟨h234_, ⟨h235_, h236_⟩⟩⟩⟩⟩⟩⟩⟩⟩⟩⟩⟩⟩⟩⟩⟩⟩⟩⟩⟩⟩⟩⟩⟩⟩
    refine ⟨⟨(la_conditional_37 h4_ h187_ h211_), ⟨h212_, ⟨h6_, h213_⟩⟩⟩, ?_⟩
    refine ⟨(la_conditional_38 e191_ h194_), ?_⟩
    intro r33
    intro h237_
    intro g29
    intro h238_
    refine ⟨?_, ?_⟩
    · skip
      intro h239_
      obtain ⟨h240_, ⟨h241_, ⟨h242_, ⟨h243_, ⟨h244_, h245_⟩⟩⟩⟩⟩ := (h238_.resolve_left (fun q_ => h239_ q_.1))
      obtain ⟨h246_, ⟨h247_, ⟨h248_, ⟨h249_, ⟨h250_, ⟨h251_, ⟨h252_, ⟨h253_, ⟨h254_, ⟨h255_, ⟨h256_, ⟨h257_, ⟨h258_, ⟨h259_, h260_⟩⟩⟩⟩⟩⟩⟩⟩⟩⟩⟩⟩⟩⟩ := (h219_ h242_)
      obtain ⟨h261_, h262_⟩ := (h236_ h242_)
      obtain ⟨h263_, h264_⟩ := (h232_ h242_)
      refine ⟨?_, ?_⟩
      · skip
        refine ⟨(la_conditional_40 h4_ h187_ h243_ h262_), ?_⟩
        refine ⟨h244_, ?_⟩
        refine ⟨h6_, ?_⟩
        refine ⟨(la_conditional_41 h241_), ?_⟩
        refine ⟨h8_, ?_⟩
        refine ⟨h9_, ?_⟩
        refine ⟨(la_conditional_42 h10_ h100_ h215_), ?_⟩
        refine ⟨h216_, ?_⟩
        refine ⟨h217_, ?_⟩
        refine ⟨?_, ?_⟩
        · skip
          intro h265_
          refine ⟨h246_, ?_⟩
          refine ⟨h248_, ?_⟩
          refine ⟨h249_, ?_⟩
          refine ⟨?_, ?_⟩
          · skip
            have h266_ := ((sm_TK_go h6_ (S 1020 0) h4_ h5_) h188_)
            have h267_ := ((sm_TK_go h6_ (g21 1020 0) (la_conditional_45 h4_ h187_ h262_) h212_) (la_conditional_22 h245_))
            have h268_ := ((sm_TK_go h6_ (g5 1020 0) (la_conditional_21 h4_ h187_) h97_) (la_conditional_22 h199_))
            have h269_ := (h267_ (la_conditional_23 h245_))
            have h270_ := (h268_ (la_conditional_23 h199_))
            have e271_ : S 1100016 (g21 1043 0) = S 1100016 (S 1043 0) := congrArg ((S 1100016)) (la_conditional_46 h110_ h225_)
            exact (la_conditional_47 h170_ (sm_F1_at h257_ (g21 1043 0) (la_conditional_43 h19_ h20_ h110_ h113_ h225_)) (sm_F1_at h183_ (g21 1043 0) (la_conditional_44 h19_ h20_ h110_ h225_)) e271_)
          exact h260_
        refine ⟨(la_conditional_48 h14_ h105_ h220_), ?_⟩
        refine ⟨(la_conditional_49 h15_ h105_ h116_ h220_ h231_), ?_⟩
        refine ⟨h222_, ?_⟩
        refine ⟨h223_, ?_⟩
        refine ⟨(la_conditional_50 h18_ h110_ h225_), ?_⟩
        refine ⟨(la_conditional_51 h19_ h20_ h110_ h113_ h225_ h228_ h230_), ?_⟩
        refine ⟨h230_, ?_⟩
        refine ⟨(la_conditional_52 h229_ h243_), ?_⟩
        refine ⟨(la_conditional_50 h22_ h109_ h224_), ?_⟩
        refine ⟨(la_conditional_53 h23_ h109_ h224_), ?_⟩
        refine ⟨(la_conditional_50 h24_ h111_ h226_), ?_⟩
        refine ⟨(la_conditional_54 h25_ h111_ h226_), ?_⟩
        refine ⟨(la_conditional_50 h26_ h112_ h227_), ?_⟩
        refine ⟨(la_conditional_54 h27_ h112_ h227_), ?_⟩
        refine ⟨(la_conditional_21 (sm_ex_e h261_).1 (sm_ex_e h261_).2.1), ?_⟩
        refine ⟨(la_conditional_55 h109_ h111_ h112_ h165_ h166_ h193_ h194_ h195_ h196_ h197_ h198_ h224_ h226_ h227_ h243_ h263_ h264_), ?_⟩
        exact h241_
      refine ⟨(la_conditional_56 h30_ h165_ e191_ h194_ h263_), ?_⟩
      refine ⟨(la_conditional_57 h165_ e191_ h194_ h263_), ?_⟩
      intro r42
      intro h272_
      intro g38
      rintro ⟨h273_, ⟨h274_, ⟨h275_, ⟨h276_, ⟨h277_, ⟨h278_, ⟨h279_, ⟨h280_, ⟨h281_, ⟨h282_, ⟨h283_, ⟨h284_, ⟨h285_, ⟨h286_, ⟨h287_, ⟨h288_, ⟨h289_, ⟨h290_, ⟨h291_, ⟨h292_, ⟨h293_, ⟨h294_, ⟨h295_, ⟨h296_, ⟨h297_, h298_⟩⟩⟩⟩⟩⟩⟩⟩⟩⟩⟩⟩⟩⟩⟩⟩⟩⟩⟩⟩⟩⟩⟩⟩⟩
      refine ⟨?_, ?_⟩
      · skip
        refine ⟨(la_conditional_58 (sm_ex_e h261_).1 (sm_ex_e h261_).2.1 h293_), ?_⟩
        refine ⟨?_, ?_⟩
        · skip
          have h299_ := ((sm_TK_go h6_ (S 1020 0) h4_ h5_) h188_)
          have h300_ := ((sm_TK_go h6_ (g21 1020 0) (la_conditional_45 h4_ h187_ h262_) h212_) (la_conditional_22 h245_))
          have h301_ := ((sm_TK_go h6_ (g5 1020 0) (la_conditional_21 h4_ h187_) h97_) (la_conditional_22 h199_))
          have h302_ := (h300_ (la_conditional_23 h245_))
          have h303_ := (h301_ (la_conditional_23 h199_))
          exact (la_conditional_59 (sm_TK_t h6_).2 h165_ h166_ h193_ h196_ h243_ h263_ h264_ h274_ h275_ h294_ h295_)
        refine ⟨(la_conditional_60 h14_ h105_ h220_ h282_), ?_⟩
        exact (la_conditional_61 h15_ h105_ h116_ h220_ h231_ h282_ h293_)
      intro r49
      intro h304_
      intro g45
      rintro ⟨h305_, ⟨h306_, ⟨h307_, ⟨h308_, ⟨h309_, ⟨h310_, ⟨h311_, ⟨h312_, ⟨h313_, ⟨h314_, ⟨h315_, ⟨h316_, ⟨h317_, ⟨h318_, ⟨h319_, ⟨h320_, ⟨h321_, ⟨h322_, ⟨h323_, h324_⟩⟩⟩⟩⟩⟩⟩⟩⟩⟩⟩⟩⟩⟩⟩⟩⟩⟩⟩
      refine ⟨(la_conditional_62 h193_ h194_), ?_⟩
      refine ⟨(la_conditional_63 h193_ h194_), ?_⟩
      intro h325_
      intro h326_
      refine ⟨(la_conditional_64 h187_ h243_ h262_ h273_), ?_⟩
      refine ⟨h274_, ?_⟩
      refine ⟨h275_, ?_⟩
      refine ⟨(la_conditional_65 h164_), ?_⟩
      refine ⟨(la_conditional_66 h100_ h215_ h277_), ?_⟩
      refine ⟨h278_, ?_⟩
      refine ⟨h279_, ?_⟩
      refine ⟨(la_conditional_67 h103_ h218_ h280_), ?_⟩
      refine ⟨?_, ?_⟩
      · skip
        intro h327_
        obtain ⟨h328_, h329_⟩ := (h294_ h327_)
        obtain ⟨h330_, ⟨h331_, ⟨h332_, ⟨h333_, ⟨h334_, ⟨h335_, ⟨h336_, ⟨h337_, ⟨h338_, ⟨h339_, ⟨h340_, ⟨h341_, ⟨h342_, ⟨h343_, h344_⟩⟩⟩⟩⟩⟩⟩⟩⟩⟩⟩⟩⟩⟩ := (h281_ h327_)
        obtain ⟨h345_, h346_⟩ := (h298_ h327_)
        obtain ⟨h347_, h348_⟩ := (h316_ h330_)
        have h349_ := (h320_ h333_)
        have h350_ := (h321_ h332_)
        have h351_ := (h324_ h344_)
        have h352_ := (h325_ h327_)
        have h353_ := (h326_ h327_)
        have h354_ := (h351_ la_conditional_68)
        have h355_ := (h352_ h349_)
        have h356_ := (h353_ h347_)
        have h357_ := (h354_ la_conditional_69)
        have h358_ := (h355_ h318_)
        have h359_ := (h356_ h348_)
        have h360_ := (h357_ la_conditional_70)
        have h361_ := (h359_ (la_conditional_71 h305_ (sm_ex_e h345_).1 (sm_ex_e h345_).2.1))
        have h362_ := (h360_ la_conditional_72)
        have h363_ := (h361_ (la_conditional_73 h305_ h306_))
        have h364_ := (h362_ la_conditional_74)
        have h365_ := (h363_ h313_)
        have h366_ := (h364_ la_conditional_75)
        have h367_ := (h365_ h307_)
        have h368_ := (h366_ la_conditional_76)
        have h369_ := (h367_ (sm_ex_eq h308_ (sm_ex_N (sm_ex_w (sm_ex_px (sm_PX_le h331_ h231_) (sm_ex_px (sm_PX_le h247_ (Int.le_refl _)) h189_)) la_conditional_77 (Int.le_refl _)) (la_conditional_78 h231_ h293_ h306_))))
        have h370_ := (h369_ (sm_ex_eq h309_ (sm_ex_N (sm_ex_w (sm_ex_px (sm_PX_le h331_ (Int.le_refl _)) h261_) (la_conditional_79 h165_) (la_conditional_80 h165_)) (la_conditional_81 h293_ h306_))))
        have h371_ := (h370_ (sm_ex_eq h310_ (sm_ex_N (sm_ex_w h345_ (la_conditional_82 h165_ h263_) (la_conditional_83 h165_ h263_)) (la_conditional_84 h306_))))
        have h372_ := (h371_ (la_conditional_85 h194_))
        have h373_ := (h372_ (la_conditional_86 h194_))
        refine ⟨h373_, ?_⟩
        refine ⟨(sm_PX_up_Ws (sm_PX_up_Lp (sm_PX_up_V (sm_PX_up_M (sm_PX_up_C (sm_PX_tr (sm_PX_tr (sm_PX_tr (sm_PX_le h173_ (Int.le_refl _)) h247_ h116_) h331_ (la_conditional_87 h116_ h231_)) h317_ (la_conditional_66 h116_ h231_ h293_)) (la_conditional_88 h116_ h231_ h293_ h305_)) (la_conditional_88 h116_ h231_ h293_ h305_)) (la_conditional_88 h116_ h231_ h293_ h305_)) (la_conditional_88 h116_ h231_ h293_ h305_)) (la_conditional_88 h116_ h231_ h293_ h305_)), ?_⟩
        refine ⟨h350_, ?_⟩
        refine ⟨h358_, ?_⟩
        refine ⟨(sm_F1_tr (sm_F1_tr (sm_F1_tr (sm_F1_le h176_ (Int.le_refl _)) h250_ h116_) h334_ (la_conditional_87 h116_ h231_)) h319_ (la_conditional_66 h116_ h231_ h293_)), ?_⟩
        refine ⟨(sm_F1_tr (sm_F1_tr (sm_F1_tr (sm_F1_le h177_ (Int.le_refl _)) h251_ h116_) h335_ (la_conditional_87 h116_ h231_)) h323_ (la_conditional_66 h116_ h231_ h293_)), ?_⟩
        refine ⟨(sm_F1_tr (sm_F1_tr (sm_F1_le h178_ (Int.le_refl _)) h252_ h113_) h336_ (la_conditional_87 h113_ h228_)), ?_⟩
        refine ⟨(sm_F1_tr (sm_F1_tr (sm_F1_le h179_ (Int.le_refl _)) h253_ h113_) h337_ (la_conditional_87 h113_ h228_)), ?_⟩
        refine ⟨(sm_F1_tr (sm_F1_tr (sm_F1_le h180_ (Int.le_refl _)) h254_ h113_) h338_ (la_conditional_87 h113_ h228_)), ?_⟩
        refine ⟨(sm_F1_tr (sm_F1_tr (sm_F1_le h181_ (Int.le_refl _)) h255_ h113_) h339_ (la_conditional_87 h113_ h228_)), ?_⟩
        refine ⟨(sm_F1_tr (sm_F1_tr (sm_F1_le h182_ (Int.le_refl _)) h256_ h113_) h340_ (la_conditional_87 h113_ h228_)), ?_⟩
        refine ⟨(sm_F1_tr (sm_F1_tr (sm_F1_le h183_ (Int.le_refl _)) h257_ h113_) h341_ (la_conditional_87 h113_ h228_)), ?_⟩
        refine ⟨(sm_F1_tr (sm_F1_tr (sm_F1_le h184_ (Int.le_refl _)) h258_ (la_conditional_90 h113_)) h342_ (la_conditional_89 h113_ h228_)), ?_⟩
        refine ⟨(sm_FN_cat (sm_FN_F h185_ (sm_F1_tr (sm_F1_le h257_ (Int.le_refl _)) h341_ h228_) (Int.le_refl _)) (sm_FN_cat (sm_FN_F h259_ (sm_F1_le h341_ (Int.le_refl _)) (Int.le_refl _)) (sm_FN_w h343_ (Int.le_refl _) (Int.le_refl _)) (Int.le_refl _) (Int.le_refl _)) (Int.le_refl _) (Int.le_refl _)), ?_⟩
        exact h368_
      refine ⟨(la_conditional_91 h105_ h220_ h282_), ?_⟩
      refine ⟨(sm_KL_tr (sm_KL_le h106_ (Int.le_refl _)) (sm_KL_tr (sm_KL_le h221_ (la_conditional_93 h109_)) (sm_KL_le h283_ (la_conditional_92 h109_ h224_)) (Int.le_refl _)) (Int.le_refl _)), ?_⟩
      refine ⟨h284_, ?_⟩
      refine ⟨h285_, ?_⟩
      refine ⟨(la_conditional_91 h109_ h224_ h286_), ?_⟩
      refine ⟨(la_conditional_91 h110_ h225_ h287_), ?_⟩
      refine ⟨(la_conditional_91 h111_ h226_ h288_), ?_⟩
      refine ⟨(la_conditional_91 h112_ h227_ h289_), ?_⟩
      refine ⟨(la_conditional_66 h113_ h228_ h290_), ?_⟩
      refine ⟨h291_, ?_⟩
      refine ⟨h292_, ?_⟩
      refine ⟨(la_conditional_94 h116_ h231_ h293_ h306_), ?_⟩
      refine ⟨(la_conditional_95 h165_ h166_ h243_ h263_ h264_ h275_ h294_ h306_), ?_⟩
      refine ⟨(la_conditional_96 h165_ h166_ e191_ h194_ h243_ h263_ h264_ h294_ h295_ h306_), ?_⟩
      refine ⟨(la_conditional_97 (sm_ex_e h261_).1 (sm_ex_e h261_).2.1 h293_ h305_), ?_⟩
      refine ⟨?_, ?_⟩
      · skip
        have h374_ := (h315_ r49)
        have h375_ := ((sm_TK_go h6_ (g5 1020 0) (la_conditional_21 h4_ h187_) h97_) (la_conditional_22 h199_))
        have h376_ := ((sm_TK_go h6_ (S 1020 0) h4_ h5_) h188_)
        have h377_ := ((sm_TK_go h6_ (g21 1020 0) (la_conditional_45 h4_ h187_ h262_) h212_) (la_conditional_22 h245_))
        have h378_ := (h375_ (la_conditional_23 h199_))
        have h379_ := (h377_ (la_conditional_23 h245_))
        exact (la_conditional_99 (sm_TK_t h6_).2 h165_ h166_ h193_ h196_ h243_ h263_ h264_ h274_ h275_ h294_ h295_ h305_)
      refine ⟨?_, ?_⟩
      · skip
        intro h380_
        obtain ⟨h381_, h382_⟩ := (h294_ h380_)
        obtain ⟨h383_, ⟨h384_, ⟨h385_, ⟨h386_, ⟨h387_, ⟨h388_, ⟨h389_, ⟨h390_, ⟨h391_, ⟨h392_, ⟨h393_, ⟨h394_, ⟨h395_, ⟨h396_, h397_⟩⟩⟩⟩⟩⟩⟩⟩⟩⟩⟩⟩⟩⟩ := (h281_ h380_)
        obtain ⟨h398_, h399_⟩ := (h298_ h380_)
        obtain ⟨h400_, h401_⟩ := (h316_ h383_)
        have h402_ := (h320_ h386_)
        have h403_ := (h321_ h385_)
        have h404_ := (h324_ h397_)
        have h405_ := (h325_ h380_)
        have h406_ := (h326_ h380_)
        have h407_ := (h404_ la_conditional_68)
        have h408_ := (h405_ h402_)
        have h409_ := (h406_ h400_)
        have h410_ := (h407_ la_conditional_69)
        have h411_ := (h408_ h318_)
        have h412_ := (h409_ h401_)
        have h413_ := (h410_ la_conditional_70)
        have h414_ := (h412_ (la_conditional_71 h305_ (sm_ex_e h398_).1 (sm_ex_e h398_).2.1))
        have h415_ := (h413_ la_conditional_72)
        have h416_ := (h414_ (la_conditional_73 h305_ h306_))
        have h417_ := (h415_ la_conditional_74)
        have h418_ := (h416_ h313_)
        have h419_ := (h417_ la_conditional_75)
        have h420_ := (h418_ h307_)
        have h421_ := (h419_ la_conditional_76)
        have h422_ := (h420_ (sm_ex_eq h308_ (sm_ex_N (sm_ex_w (sm_ex_px (sm_PX_le h384_ h231_) (sm_ex_px (sm_PX_le h247_ (Int.le_refl _)) h189_)) la_conditional_77 (Int.le_refl _)) (la_conditional_78 h231_ h293_ h306_))))
        have h423_ := (h422_ (sm_ex_eq h309_ (sm_ex_N (sm_ex_w (sm_ex_px (sm_PX_le h384_ (Int.le_refl _)) h261_) (la_conditional_79 h165_) (la_conditional_80 h165_)) (la_conditional_81 h293_ h306_))))
        have h424_ := (h423_ (sm_ex_eq h310_ (sm_ex_N (sm_ex_w h398_ (la_conditional_82 h165_ h263_) (la_conditional_83 h165_ h263_)) (la_conditional_84 h306_))))
        have h425_ := (h424_ (la_conditional_85 h194_))
        have h426_ := (h425_ (la_conditional_86 h194_))
        refine ⟨(la_conditional_100 h187_ h243_ h262_ h399_), ?_⟩
        refine ⟨h188_, ?_⟩
        refine ⟨(sm_ex_if (la_conditional_71 h305_ (sm_ex_e h398_).1 (sm_ex_e h398_).2.1) (la_conditional_73 h305_ h306_) la_conditional_101 la_conditional_102 la_conditional_103), ?_⟩
        intro h427_
        have h428_ := (h427_.resolve_left (la_conditional_104 h307_))
        have h429_ := (h315_ r49)
        have e430_ : (if r49 = r49 then 17 * (20 - S 1023 0) + 17 else g38 1100002 r49 : Int) = 17 * (20 - S 1023 0) + 17 := if_pos la_conditional_110
        have h431_ := ((sm_TK_go h6_ (g5 1020 0) (la_conditional_21 h4_ h187_) h97_) (la_conditional_22 h199_))
        have h432_ := ((sm_TK_go h6_ (S 1020 0) h4_ h5_) h188_)
        have h433_ := ((sm_TK_go h6_ (g21 1020 0) (la_conditional_45 h4_ h187_ h262_) h212_) (la_conditional_22 h245_))
        have h434_ := (h431_ (la_conditional_23 h199_))
        have h435_ := (h433_ (la_conditional_23 h245_))
        have e436_ : g21 11 r9 = g21 11 (g45 12 (5 * r49)) := congrArg ((g21 11)) (la_conditional_111 h308_)
        have e437_ : g21 1100001 r9 = g21 1100001 (g45 12 (5 * r49)) := congrArg ((g21 1100001)) (la_conditional_111 h308_)
        have e438_ : g21 1100002 r9 = g21 1100002 (g45 12 (5 * r49)) := congrArg ((g21 1100002)) (la_conditional_111 h308_)
        have e439_ : g21 1100003 r9 = g21 1100003 (g45 12 (5 * r49)) := congrArg ((g21 1100003)) (la_conditional_111 h308_)
        have e440_ : g21 1100004 r9 = g21 1100004 (g45 12 (5 * r49)) := congrArg ((g21 1100004)) (la_conditional_111 h308_)
        have e441_ : g21 1100005 r9 = g21 1100005 (g45 12 (5 * r49)) := congrArg ((g21 1100005)) (la_conditional_111 h308_)
        have e442_ : g21 12 (5 * r9) = g21 12 (5 * g45 12 (5 * r49)) := congrArg ((g21 12)) (la_conditional_112 h308_)
        have e443_ : g21 12 (5 * r9 + 1) = g21 12 (5 * g45 12 (5 * r49) + 1) := congrArg ((g21 12)) (la_conditional_113 h308_)
        have e444_ : g21 12 (5 * r9 + 2) = g21 12 (5 * g45 12 (5 * r49) + 2) := congrArg ((g21 12)) (la_conditional_114 h308_)
        have e445_ : g21 12 (5 * r9 + 3) = g21 12 (5 * g45 12 (5 * r49) + 3) := congrArg ((g21 12)) (la_conditional_115 h308_)
        have e446_ : g21 12 (5 * r9 + 4) = g21 12 (5 * g45 12 (5 * r49) + 4) := congrArg ((g21 12)) (la_conditional_116 h308_)
        have e447_ : g21 13 r9 = g21 13 (g45 12 (5 * r49)) := congrArg ((g21 13)) (la_conditional_111 h308_)
        have e448_ : g38 11 r9 = g38 11 (g45 12 (5 * r49)) := congrArg ((g38 11)) (la_conditional_111 h308_)
        have e449_ : g38 1100001 r9 = g38 1100001 (g45 12 (5 * r49)) := congrArg ((g38 1100001)) (la_conditional_111 h308_)
        have e450_ : g38 1100002 r9 = g38 1100002 (g45 12 (5 * r49)) := congrArg ((g38 1100002)) (la_conditional_111 h308_)
        have e451_ : g38 1100003 r9 = g38 1100003 (g45 12 (5 * r49)) := congrArg ((g38 1100003)) (la_conditional_111 h308_)
        have e452_ : g38 1100004 r9 = g38 1100004 (g45 12 (5 * r49)) := congrArg ((g38 1100004)) (la_conditional_111 h308_)
        have e453_ : g38 1100005 r9 = g38 1100005 (g45 12 (5 * r49)) := congrArg ((g38 1100005)) (la_conditional_111 h308_)
        have e454_ : g38 12 (5 * r9) = g38 12 (5 * g45 12 (5 * r49)) := congrArg ((g38 12)) (la_conditional_112 h308_)
        have e455_ : g38 12 (5 * r9 + 1) = g38 12 (5 * g45 12 (5 * r49) + 1) := congrArg ((g38 12)) (la_conditional_113 h308_)
        have e456_ : g38 12 (5 * r9 + 2) = g38 12 (5 * g45 12 (5 * r49) + 2) := congrArg ((g38 12)) (la_conditional_114 h308_)
        have e457_ : g38 12 (5 * r9 + 3) = g38 12 (5 * g45 12 (5 * r49) + 3) := congrArg ((g38 12)) (la_conditional_115 h308_)
        have e458_ : g38 12 (5 * r9 + 4) = g38 12 (5 * g45 12 (5 * r49) + 4) := congrArg ((g38 12)) (la_conditional_116 h308_)
        have e459_ : g38 13 r9 = g38 13 (g45 12 (5 * r49)) := congrArg ((g38 13)) (la_conditional_111 h308_)
        have e460_ : g45 11 r9 = g45 11 (g45 12 (5 * r49)) := congrArg ((g45 11)) (la_conditional_111 h308_)
        have e461_ : g45 13 r9 = g45 13 (g45 12 (5 * r49)) := congrArg ((g45 13)) (la_conditional_111 h308_)
        have e462_ : g5 11 r9 = g5 11 (g45 12 (5 * r49)) := congrArg ((g5 11)) (la_conditional_111 h308_)
        have e463_ : g5 1100001 r9 = g5 1100001 (g45 12 (5 * r49)) := congrArg ((g5 1100001)) (la_conditional_111 h308_)
        have e464_ : g5 1100002 r9 = g5 1100002 (g45 12 (5 * r49)) := congrArg ((g5 1100002)) (la_conditional_111 h308_)
        have e465_ : g5 1100003 r9 = g5 1100003 (g45 12 (5 * r49)) := congrArg ((g5 1100003)) (la_conditional_111 h308_)
        have e466_ : g5 1100004 r9 = g5 1100004 (g45 12 (5 * r49)) := congrArg ((g5 1100004)) (la_conditional_111 h308_)
        have e467_ : g5 1100005 r9 = g5 1100005 (g45 12 (5 * r49)) := congrArg ((g5 1100005)) (la_conditional_111 h308_)
        have e468_ : g5 12 (5 * r9) = g5 12 (5 * g45 12 (5 * r49)) := congrArg ((g5 12)) (la_conditional_112 h308_)
        have e469_ : g5 12 (5 * r9 + 1) = g5 12 (5 * g45 12 (5 * r49) + 1) := congrArg ((g5 12)) (la_conditional_113 h308_)
        have e470_ : g5 12 (5 * r9 + 2) = g5 12 (5 * g45 12 (5 * r49) + 2) := congrArg ((g5 12)) (la_conditional_114 h308_)
        have e471_ : g5 12 (5 * r9 + 3) = g5 12 (5 * g45 12 (5 * r49) + 3) := congrArg ((g5 12)) (la_conditional_115 h308_)
        have e472_ : g5 12 (5 * r9 + 4) = g5 12 (5 * g45 12 (5 * r49) + 4) := congrArg ((g5 12)) (la_conditional_116 h308_)
        have e473_ : g5 13 r9 = g5 13 (g45 12 (5 * r49)) := congrArg ((g5 13)) (la_conditional_111 h308_)
        exact ((la_conditional_117 h307_ h428_)).elim
      intro h474_
      refine ⟨?_, ?_⟩
      · skip
        have h475_ := (h315_ r49)
        have h476_ := ((sm_TK_go h6_ (g5 1020 0) (la_conditional_21 h4_ h187_) h97_) (la_conditional_22 h199_))
        have h477_ := ((sm_TK_go h6_ (S 1020 0) h4_ h5_) h188_)
        have h478_ := ((sm_TK_go h6_ (g21 1020 0) (la_conditional_45 h4_ h187_ h262_) h212_) (la_conditional_22 h245_))
        have h479_ := (h476_ (la_conditional_23 h199_))
        have h480_ := (h478_ (la_conditional_23 h245_))
        exact ((la_conditional_118 h164_ h474_)).elim
      have h481_ := (h315_ r49)
      have h482_ := ((sm_TK_go h6_ (g5 1020 0) (la_conditional_21 h4_ h187_) h97_) (la_conditional_22 h199_))
      have h483_ := ((sm_TK_go h6_ (S 1020 0) h4_ h5_) h188_)
      have h484_ := ((sm_TK_go h6_ (g21 1020 0) (la_conditional_45 h4_ h187_ h262_) h212_) (la_conditional_22 h245_))
      have h485_ := (h482_ (la_conditional_23 h199_))
      have h486_ := (h484_ (la_conditional_23 h245_))
      exact ((la_conditional_118 h164_ h474_)).elim
    intro h487_
    obtain ⟨h488_, ⟨h489_, h490_⟩⟩ := (h238_.resolve_right (la_conditional_119 h487_))
    refine ⟨(la_conditional_120 h187_ h211_ h490_), ?_⟩
    refine ⟨(la_conditional_105 h212_ h490_), ?_⟩
    refine ⟨(la_conditional_121 h489_), ?_⟩
    refine ⟨(la_conditional_65 h164_), ?_⟩
    refine ⟨(la_conditional_87 h100_ h215_), ?_⟩
    refine ⟨h216_, ?_⟩
    refine ⟨h217_, ?_⟩
    refine ⟨(la_conditional_122 h103_ h218_), ?_⟩
    refine ⟨?_, ?_⟩
    · skip
      intro h491_
      refine ⟨?_, ?_⟩
      · skip
        have h492_ := ((sm_TK_go h6_ (S 1020 0) h4_ h5_) h188_)
        have h493_ := ((sm_TK_go h6_ (g5 1020 0) (la_conditional_21 h4_ h187_) h97_) (la_conditional_22 h199_))
        have h494_ := (h493_ (la_conditional_23 h199_))
        have h495_ : g21 1021 0 = 0 := by
          exact ((la_conditional_16 h489_ h491_)).elim
        obtain ⟨h496_, ⟨h497_, ⟨h498_, ⟨h499_, ⟨h500_, ⟨h501_, ⟨h502_, ⟨h503_, ⟨h504_, ⟨h505_, ⟨h506_, ⟨h507_, ⟨h508_, ⟨h509_, h510_⟩⟩⟩⟩⟩⟩⟩⟩⟩⟩⟩⟩⟩⟩ := (h219_ h495_)
        exact h496_
      refine ⟨?_, ?_⟩
      · skip
        have h511_ := ((sm_TK_go h6_ (S 1020 0) h4_ h5_) h188_)
        have h512_ := ((sm_TK_go h6_ (g5 1020 0) (la_conditional_21 h4_ h187_) h97_) (la_conditional_22 h199_))
        have h513_ := (h512_ (la_conditional_23 h199_))
        exact ((la_conditional_16 h489_ h491_)).elim
      refine ⟨?_, ?_⟩
      · skip
        have h514_ := ((sm_TK_go h6_ (S 1020 0) h4_ h5_) h188_)
        have h515_ := ((sm_TK_go h6_ (g5 1020 0) (la_conditional_21 h4_ h187_) h97_) (la_conditional_22 h199_))
        have h516_ := (h515_ (la_conditional_23 h199_))
        have h517_ : g21 1021 0 = 0 := by
          exact ((la_conditional_16 h489_ h491_)).elim
        obtain ⟨h518_, ⟨h519_, ⟨h520_, ⟨h521_, ⟨h522_, ⟨h523_, ⟨h524_, ⟨h525_, ⟨h526_, ⟨h527_, ⟨h528_, ⟨h529_, ⟨h530_, ⟨h531_, h532_⟩⟩⟩⟩⟩⟩⟩⟩⟩⟩⟩⟩⟩⟩ := (h219_ h517_)
        exact h520_
      refine ⟨?_, ?_⟩
      · skip
        have h533_ := ((sm_TK_go h6_ (S 1020 0) h4_ h5_) h188_)
        have h534_ := ((sm_TK_go h6_ (g5 1020 0) (la_conditional_21 h4_ h187_) h97_) (la_conditional_22 h199_))
        have h535_ := (h534_ (la_conditional_23 h199_))
        have h536_ : g21 1021 0 = 0 := by
          exact ((la_conditional_16 h489_ h491_)).elim
        obtain ⟨h537_, ⟨h538_, ⟨h539_, ⟨h540_, ⟨h541_, ⟨h542_, ⟨h543_, ⟨h544_, ⟨h545_, ⟨h546_, ⟨h547_, ⟨h548_, ⟨h549_, ⟨h550_, h551_⟩⟩⟩⟩⟩⟩⟩⟩⟩⟩⟩⟩⟩⟩ := (h219_ h536_)
        exact h540_
      refine ⟨?_, ?_⟩
      · skip
        have h552_ := ((sm_TK_go h6_ (S 1020 0) h4_ h5_) h188_)
        have h553_ := ((sm_TK_go h6_ (g5 1020 0) (la_conditional_21 h4_ h187_) h97_) (la_conditional_22 h199_))
        have h554_ := (h553_ (la_conditional_23 h199_))
        exact ((la_conditional_16 h489_ h491_)).elim
      refine ⟨?_, ?_⟩
      · skip
        have h555_ := ((sm_TK_go h6_ (S 1020 0) h4_ h5_) h188_)
        have h556_ := ((sm_TK_go h6_ (g5 1020 0) (la_conditional_21 h4_ h187_) h97_) (la_conditional_22 h199_))
        have h557_ := (h556_ (la_conditional_23 h199_))
        exact ((la_conditional_16 h489_ h491_)).elim
      refine ⟨?_, ?_⟩
      · skip
        have h558_ := ((sm_TK_go h6_ (S 1020 0) h4_ h5_) h188_)
        have h559_ := ((sm_TK_go h6_ (g5 1020 0) (la_conditional_21 h4_ h187_) h97_) (la_conditional_22 h199_))
        have h560_ := (h559_ (la_conditional_23 h199_))
        exact ((la_conditional_16 h489_ h491_)).elim
      refine ⟨?_, ?_⟩
      · skip
        have h561_ := ((sm_TK_go h6_ (S 1020 0) h4_ h5_) h188_)
        have h562_ := ((sm_TK_go h6_ (g5 1020 0) (la_conditional_21 h4_ h187_) h97_) (la_conditional_22 h199_))
        have h563_ := (h562_ (la_conditional_23 h199_))
        exact ((la_conditional_16 h489_ h491_)).elim
      refine ⟨?_, ?_⟩
      · skip
        have h564_ := ((sm_TK_go h6_ (S 1020 0) h4_ h5_) h188_)
        have h565_ := ((sm_TK_go h6_ (g5 1020 0) (la_conditional_21 h4_ h187_) h97_) (la_conditional_22 h199_))
        have h566_ := (h565_ (la_conditional_23 h199_))
        exact ((la_conditional_16 h489_ h491_)).elim
      refine ⟨?_, ?_⟩
      · skip
        have h567_ := ((sm_TK_go h6_ (S 1020 0) h4_ h5_) h188_)
        have h568_ := ((sm_TK_go h6_ (g5 1020 0) (la_conditional_21 h4_ h187_) h97_) (la_conditional_22 h199_))
        have h569_ := (h568_ (la_conditional_23 h199_))
        exact ((la_conditional_16 h489_ h491_)).elim
      refine ⟨?_, ?_⟩
      · skip
        have h570_ := ((sm_TK_go h6_ (S 1020 0) h4_ h5_) h188_)
        have h571_ := ((sm_TK_go h6_ (g5 1020 0) (la_conditional_21 h4_ h187_) h97_) (la_conditional_22 h199_))
        have h572_ := (h571_ (la_conditional_23 h199_))
        exact ((la_conditional_16 h489_ h491_)).elim
      refine ⟨?_, ?_⟩
      · skip
        have h573_ := ((sm_TK_go h6_ (S 1020 0) h4_ h5_) h188_)
        have h574_ := ((sm_TK_go h6_ (g5 1020 0) (la_conditional_21 h4_ h187_) h97_) (la_conditional_22 h199_))
        have h575_ := (h574_ (la_conditional_23 h199_))
        exact ((la_conditional_16 h489_ h491_)).elim
      refine ⟨?_, ?_⟩
      · skip
        have h576_ := ((sm_TK_go h6_ (S 1020 0) h4_ h5_) h188_)
        have h577_ := ((sm_TK_go h6_ (g5 1020 0) (la_conditional_21 h4_ h187_) h97_) (la_conditional_22 h199_))
        have h578_ := (h577_ (la_conditional_23 h199_))
        exact ((la_conditional_16 h489_ h491_)).elim
      refine ⟨?_, ?_⟩
      · skip
        have h579_ := ((sm_TK_go h6_ (S 1020 0) h4_ h5_) h188_)
        have h580_ := ((sm_TK_go h6_ (g5 1020 0) (la_conditional_21 h4_ h187_) h97_) (la_conditional_22 h199_))
        have h581_ := (h580_ (la_conditional_23 h199_))
        exact ((la_conditional_16 h489_ h491_)).elim
      have h582_ := ((sm_TK_go h6_ (S 1020 0) h4_ h5_) h188_)
      have h583_ := ((sm_TK_go h6_ (g5 1020 0) (la_conditional_21 h4_ h187_) h97_) (la_conditional_22 h199_))
      have h584_ := (h583_ (la_conditional_23 h199_))
      have h585_ : g21 1021 0 = 0 := by
        exact ((la_conditional_16 h489_ h491_)).elim
      obtain ⟨h586_, ⟨h587_, ⟨h588_, ⟨h589_, ⟨h590_, ⟨h591_, ⟨h592_, ⟨h593_, ⟨h594_, ⟨h595_, ⟨h596_, ⟨h597_, ⟨h598_, ⟨h599_, h600_⟩⟩⟩⟩⟩⟩⟩⟩⟩⟩⟩⟩⟩⟩ := (h219_ h585_)
      exact h600_
    refine ⟨(la_conditional_46 h105_ h220_), ?_⟩
    refine ⟨(sm_KL_tr (sm_KL_le h106_ (Int.le_refl _)) (sm_KL_le h221_ (la_conditional_93 h109_)) (Int.le_refl _)), ?_⟩
    refine ⟨h222_, ?_⟩
    refine ⟨h223_, ?_⟩
    refine ⟨(la_conditional_46 h109_ h224_), ?_⟩
    refine ⟨(la_conditional_46 h110_ h225_), ?_⟩
    refine ⟨(la_conditional_46 h111_ h226_), ?_⟩
    refine ⟨(la_conditional_46 h112_ h227_), ?_⟩
    refine ⟨(la_conditional_87 h113_ h228_), ?_⟩
    refine ⟨(la_conditional_123 h229_ h490_), ?_⟩
    refine ⟨h230_, ?_⟩
    refine ⟨(la_conditional_87 h116_ h231_), ?_⟩
    refine ⟨(la_conditional_124 h489_), ?_⟩
    refine ⟨(la_conditional_125 h165_ h166_ e191_ h194_ h213_ h232_ h233_ h490_), ?_⟩
    refine ⟨la_conditional_126, ?_⟩
    refine ⟨la_conditional_127, ?_⟩
    refine ⟨?_, ?_⟩
    · skip
      intro h601_
      refine ⟨(la_conditional_128 h187_ h211_ h490_), ?_⟩
      refine ⟨h188_, ?_⟩
      refine ⟨?_, ?_⟩
      · skip
        have h602_ := ((sm_TK_go h6_ (S 1020 0) h4_ h5_) h188_)
        have h603_ := ((sm_TK_go h6_ (g5 1020 0) (la_conditional_21 h4_ h187_) h97_) (la_conditional_22 h199_))
        have h604_ := (h603_ (la_conditional_23 h199_))
        exact ((la_conditional_16 h489_ h601_)).elim
      intro h605_
      have h606_ := ((sm_TK_go h6_ (S 1020 0) h4_ h5_) h188_)
      have h607_ := ((sm_TK_go h6_ (g5 1020 0) (la_conditional_21 h4_ h187_) h97_) (la_conditional_22 h199_))
      have h608_ := (h607_ (la_conditional_23 h199_))
      exact ((la_conditional_16 h489_ h601_)).elim
    intro h609_
    refine ⟨?_, ?_⟩
    · skip
      have h610_ := ((sm_TK_go h6_ (S 1020 0) h4_ h5_) h188_)
      have h611_ := ((sm_TK_go h6_ (g5 1020 0) (la_conditional_21 h4_ h187_) h97_) (la_conditional_22 h199_))
      have h612_ := (h611_ (la_conditional_23 h199_))
      exact ((la_conditional_118 h164_ h609_)).elim
    have h613_ := ((sm_TK_go h6_ (S 1020 0) h4_ h5_) h188_)
    have h614_ := ((sm_TK_go h6_ (g5 1020 0) (la_conditional_21 h4_ h187_) h97_) (la_conditional_22 h199_))
    have h615_ := (h614_ (la_conditional_23 h199_))
    exact ((la_conditional_118 h164_ h609_)).elim
  intro h616_
  refine ⟨h96_, ?_⟩
  refine ⟨h97_, ?_⟩
  refine ⟨h98_, ?_⟩
  refine ⟨h99_, ?_⟩
  refine ⟨h100_, ?_⟩
  refine ⟨h101_, ?_⟩
  refine ⟨h102_, ?_⟩
  refine ⟨h103_, ?_⟩
  refine ⟨h104_, ?_⟩
  refine ⟨h105_, ?_⟩
  refine ⟨h106_, ?_⟩
  refine ⟨h107_, ?_⟩
  refine ⟨h108_, ?_⟩
  refine ⟨h109_, ?_⟩
  refine ⟨h110_, ?_⟩
  refine ⟨h111_, ?_⟩
  refine ⟨h112_, ?_⟩
  refine ⟨h113_, ?_⟩
  refine ⟨h114_, ?_⟩
  refine ⟨h115_, ?_⟩
  refine ⟨h116_, ?_⟩
  refine ⟨h117_, ?_⟩
  refine ⟨(la_conditional_129 h163_), ?_⟩
  refine ⟨h119_, ?_⟩
  refine ⟨h120_, ?_⟩
  refine ⟨?_, ?_⟩
  · skip
    intro h617_
    refine ⟨h187_, ?_⟩
    refine ⟨h188_, ?_⟩
    refine ⟨(sm_ex_N (sm_ex_w h189_ la_conditional_130 (Int.le_refl _)) (Int.le_refl _)), ?_⟩
    intro h618_
    have h619_ := (h190_ h618_)
    exact h619_
  intro h620_
  refine ⟨?_, ?_⟩
  · skip
    have h621_ := ((sm_TK_go h6_ (S 1020 0) h4_ h5_) h188_)
    exact ((la_conditional_118 h164_ h620_)).elim
  have h622_ := ((sm_TK_go h6_ (S 1020 0) h4_ h5_) h188_)
  exact ((la_conditional_118 h164_ h620_)).elim
set_option maxRecDepth 8000 in
set_option maxHeartbeats 2000000 in
theorem s_conditional (d : Int) (h0 : 0 ≤ d) (IH : ∀ d' : Int, 0 ≤ d' → d' < d → P_P d') : T_conditional d := by
  intro p1 S hok hp1 hpre hd
  have h := f_conditional d p1 S hok hp1 hpre hd
  have hM := sm_h48
  show sv_T sm_XS sm_cs sm_L sm_sh ((if 0 < (S 1021 0) then 11 else 30 * (20 - (S 1023 0)) + 24)).toNat (q_conditional p1 S) 48 0 [(0, .ref 0), (1, sv_I p1)] [] S
  refine sv_aload_n hM dX12_conditional_0 rfl rfl ?_
  refine sv_iconst (d := (0 : Int)) hM dX12_conditional_1 rfl rfl ?_
  refine sv_iload_n hM dX12_conditional_2 rfl rfl ?_
  obtain ⟨o1, h⟩ := h
  obtain ⟨o2, h⟩ := h
  obtain ⟨o3, h⟩ := h
  obtain ⟨o4, h⟩ := h
  refine sv_callV hM dX12_conditional_3 sm_iv_469 (by decide) (sm_a0 _) rfl rfl (Nat.le_of_ble_eq_true rfl) sm_h51 (Nat.le_of_ble_eq_true rfl) (Nat.le_of_ble_eq_true rfl) (F' := (((if 0 < (S 1021 0) then 10 else 30 * (20 - (S 1023 0)) + (23 - (0 : Int))))).toNat) (sv_Fe o4) rfl ((IH ((if 0 < (S 1021 0) then 10 else 30 * (20 - (S 1023 0)) + (23 - (0 : Int)))) o3.1 o3.2).2.2.2.2.1 (0 : Int) p1 S hok (⟨by decide, by decide⟩ : sv_R (0 : Int)) o1 o2 rfl) (fun v S1 hq => ?_)
  obtain ⟨r9, rfl, hr9, ok6, md7, hpo8⟩ := hq
  obtain ⟨g5, rfl⟩ : ∃ g, S1 = sv_sts S [1020, 1021, 1022, 1023, 5, 1011, 3, 4, 1007, 1009, 11, 12, 13, 14, 1024, 15, 16, 1031, 1032, 17, 18, 19, 20, 21, 22, 23, 24, 25, 1042, 1043, 1044, 1045, 1100001, 1100002, 1100005, 1100003, 1100004, 1100018, 1100019, 1100016, 1100035, 1100036] g := ⟨_, md7.eq⟩
  show sv_T sm_XS sm_cs sm_L sm_sh ((if 0 < (S 1021 0) then 11 else 30 * (20 - (S 1023 0)) + 24)).toNat (q_conditional p1 S) 48 6 [(0, .ref 0), (1, sv_I p1)] [sv_I r9] (sv_sts S [1020, 1021, 1022, 1023, 5, 1011, 3, 4, 1007, 1009, 11, 12, 13, 14, 1024, 15, 16, 1031, 1032, 17, 18, 19, 20, 21, 22, 23, 24, 25, 1042, 1043, 1044, 1045, 1100001, 1100002, 1100005, 1100003, 1100004, 1100018, 1100019, 1100016, 1100035, 1100036] g5)
  have md10 : sv_mod [1020, 1021, 1022, 1023, 5, 1011, 3, 4, 1007, 1009, 11, 12, 13, 14, 1024, 15, 16, 1031, 1032, 17, 18, 19, 20, 21, 22, 23, 24, 25, 1042, 1043, 1044, 1045, 1100001, 1100002, 1100005, 1100003, 1100004, 1100018, 1100019, 1100016, 1100035, 1100036] S (sv_sts S [1020, 1021, 1022, 1023, 5, 1011, 3, 4, 1007, 1009, 11, 12, 13, 14, 1024, 15, 16, 1031, 1032, 17, 18, 19, 20, 21, 22, 23, 24, 25, 1042, 1043, 1044, 1045, 1100001, 1100002, 1100005, 1100003, 1100004, 1100018, 1100019, 1100016, 1100035, 1100036] g5) := sv_mod.sts sv_mod.rf (by decide)
  have h := h r9 hr9 g5 hpo8
  refine sv_istore_n hM dX12_conditional_6 (by decide) rfl ?_
  show sv_T sm_XS sm_cs sm_L sm_sh ((if 0 < (S 1021 0) then 11 else 30 * (20 - (S 1023 0)) + 24)).toNat (q_conditional p1 S) 48 7 [(0, .ref 0), (1, sv_I p1), (2, sv_I r9)] [] (sv_sts S [1020, 1021, 1022, 1023, 5, 1011, 3, 4, 1007, 1009, 11, 12, 13, 14, 1024, 15, 16, 1031, 1032, 17, 18, 19, 20, 21, 22, 23, 24, 25, 1042, 1043, 1044, 1045, 1100001, 1100002, 1100005, 1100003, 1100004, 1100018, 1100019, 1100016, 1100035, 1100036] g5)
  refine sv_aload_n hM dX12_conditional_7 rfl rfl ?_
  have k11 : sv_R (g5 1021 0) := sm_okI ok6 sm_r1021 0
  have h := h k11
  refine sv_getI hM dX12_conditional_8 sm_fl_389 (sm_a0 _) sm_k21 rfl (x := (g5 1021 0)) rfl ?_
  refine sv_cond_gt hM dX12_conditional_11 k11 (t := 23) rfl rfl (fun hc => ?_) (fun hc => ?_)
  · have h := h.1 (hc)
    refine sv_iload_n hM dX12_conditional_23 rfl rfl ?_
    exact sv_iret hM dX12_conditional_24 rfl rfl ⟨r9, rfl, hr9, ok6, md10, h⟩
  · have h := h.2 (hc)
    refine sv_aload_n hM dX12_conditional_14 rfl rfl ?_
    refine sv_bipush (d := (45 : Int)) hM dX12_conditional_15 rfl rfl ?_
    obtain ⟨o12, h⟩ := h
    obtain ⟨o13, h⟩ := h
    refine sv_callV hM dX12_conditional_17 sm_iv_398 (by decide) (sm_a0 _) rfl rfl (Nat.le_of_ble_eq_true rfl) sm_h24 (Nat.le_of_ble_eq_true rfl) (Nat.le_of_ble_eq_true rfl) (F' := 0) (sv_Fn (n := 0) o13) rfl (t_isSign (45 : Int) (sv_sts S [1020, 1021, 1022, 1023, 5, 1011, 3, 4, 1007, 1009, 11, 12, 13, 14, 1024, 15, 16, 1031, 1032, 17, 18, 19, 20, 21, 22, 23, 24, 25, 1042, 1043, 1044, 1045, 1100001, 1100002, 1100005, 1100003, 1100004, 1100018, 1100019, 1100016, 1100035, 1100036] g5) ok6 (⟨by decide, by decide⟩ : sv_R (45 : Int)) o12) (fun v S1 hq => ?_)
    obtain ⟨rfl, hS1⟩ := hq
    obtain rfl : (sv_sts S [1020, 1021, 1022, 1023, 5, 1011, 3, 4, 1007, 1009, 11, 12, 13, 14, 1024, 15, 16, 1031, 1032, 17, 18, 19, 20, 21, 22, 23, 24, 25, 1042, 1043, 1044, 1045, 1100001, 1100002, 1100005, 1100003, 1100004, 1100018, 1100019, 1100016, 1100035, 1100036] g5) = S1 := hS1.symm
    show sv_T sm_XS sm_cs sm_L sm_sh ((if 0 < (S 1021 0) then 11 else 30 * (20 - (S 1023 0)) + 24)).toNat (q_conditional p1 S) 48 20 [(0, .ref 0), (1, sv_I p1), (2, sv_I r9)] [sv_I (if (S 6 (g5 1020 0)) = 5 ∧ (S 7 (g5 1020 0)) = (45 : Int) then 1 else 0)] (sv_sts S [1020, 1021, 1022, 1023, 5, 1011, 3, 4, 1007, 1009, 11, 12, 13, 14, 1024, 15, 16, 1031, 1032, 17, 18, 19, 20, 21, 22, 23, 24, 25, 1042, 1043, 1044, 1045, 1100001, 1100002, 1100005, 1100003, 1100004, 1100018, 1100019, 1100016, 1100035, 1100036] g5)
    refine sv_cond_ne hM dX12_conditional_20 (sv_Rite : sv_R (if (S 6 (g5 1020 0)) = 5 ∧ (S 7 (g5 1020 0)) = (45 : Int) then 1 else 0)) (t := 25) rfl rfl (fun hc => ?_) (fun hc => ?_)
    · have h := h.1 (sv_itep hc)
      refine sv_aload_n hM dX12_conditional_25 rfl rfl ?_
      refine sv_dupA hM dX12_conditional_26 rfl ?_
      have k14 : sv_R (g5 1020 0) := sm_okI ok6 sm_r1020 0
      have h := h k14
      refine sv_getI hM dX12_conditional_27 sm_fl_392 (sm_a0 _) sm_k20 rfl (x := (g5 1020 0)) rfl ?_
      refine sv_iconst (d := (1 : Int)) hM dX12_conditional_30 rfl rfl ?_
      refine sv_iadd hM dX12_conditional_31 rfl ?_
      obtain ⟨o15, h⟩ := h
      refine sv_putI sm_X hM dX12_conditional_32 sm_fp_392 (sm_a0 _) sm_q20 (Or.inl rfl) rfl rfl rfl rfl ?_
      have ok16 : sm_ok (sv_up (sv_sts S [1020, 1021, 1022, 1023, 5, 1011, 3, 4, 1007, 1009, 11, 12, 13, 14, 1024, 15, 16, 1031, 1032, 17, 18, 19, 20, 21, 22, 23, 24, 25, 1042, 1043, 1044, 1045, 1100001, 1100002, 1100005, 1100003, 1100004, 1100018, 1100019, 1100016, 1100035, 1100036] g5) 1020 0 ((g5 1020 0) + (1 : Int))) := sm_upI ok6 sm_r1020 o15
      have md17 : sv_mod [1020, 1021, 1022, 1023, 5, 1011, 3, 4, 1007, 1009, 11, 12, 13, 14, 1024, 15, 16, 1031, 1032, 17, 18, 19, 20, 21, 22, 23, 24, 25, 1042, 1043, 1044, 1045, 1100001, 1100002, 1100005, 1100003, 1100004, 1100018, 1100019, 1100016, 1100035, 1100036] S (sv_up (sv_sts S [1020, 1021, 1022, 1023, 5, 1011, 3, 4, 1007, 1009, 11, 12, 13, 14, 1024, 15, 16, 1031, 1032, 17, 18, 19, 20, 21, 22, 23, 24, 25, 1042, 1043, 1044, 1045, 1100001, 1100002, 1100005, 1100003, 1100004, 1100018, 1100019, 1100016, 1100035, 1100036] g5) 1020 0 ((g5 1020 0) + (1 : Int))) := sv_mod.up md10 (by decide)
      refine sv_aload_n hM dX12_conditional_35 rfl rfl ?_
      refine sv_iload_n hM dX12_conditional_36 rfl rfl ?_
      obtain ⟨o18, h⟩ := h
      obtain ⟨o19, h⟩ := h
      obtain ⟨o20, h⟩ := h
      refine sv_callV hM dX12_conditional_37 sm_iv_466 (by decide) (sm_a0 _) rfl rfl (Nat.le_of_ble_eq_true rfl) sm_h46 (Nat.le_of_ble_eq_true rfl) (Nat.le_of_ble_eq_true rfl) (F' := ((30 * (20 - (g5 1023 0)) + 14)).toNat) (sv_Fe o20) rfl ((IH (30 * (20 - (g5 1023 0)) + 14) o19.1 o19.2).2.1 p1 (sv_up (sv_sts S [1020, 1021, 1022, 1023, 5, 1011, 3, 4, 1007, 1009, 11, 12, 13, 14, 1024, 15, 16, 1031, 1032, 17, 18, 19, 20, 21, 22, 23, 24, 25, 1042, 1043, 1044, 1045, 1100001, 1100002, 1100005, 1100003, 1100004, 1100018, 1100019, 1100016, 1100035, 1100036] g5) 1020 0 ((g5 1020 0) + (1 : Int))) ok16 o1 o18 rfl) (fun v S1 hq => ?_)
      obtain ⟨r25, rfl, hr25, ok22, md23, hpo24⟩ := hq
      obtain ⟨g21, rfl⟩ : ∃ g, S1 = sv_sts (sv_up (sv_sts S [1020, 1021, 1022, 1023, 5, 1011, 3, 4, 1007, 1009, 11, 12, 13, 14, 1024, 15, 16, 1031, 1032, 17, 18, 19, 20, 21, 22, 23, 24, 25, 1042, 1043, 1044, 1045, 1100001, 1100002, 1100005, 1100003, 1100004, 1100018, 1100019, 1100016, 1100035, 1100036] g5) 1020 0 ((g5 1020 0) + (1 : Int))) [1020, 1021, 1022, 1023, 5, 1011, 3, 4, 1007, 1009, 11, 12, 13, 14, 1024, 15, 16, 1031, 1032, 17, 18, 19, 20, 21, 22, 23, 24, 25, 1042, 1043, 1044, 1045, 1100001, 1100002, 1100005, 1100003, 1100004, 1100018, 1100019, 1100016, 1100035, 1100036] g := ⟨_, md23.eq⟩
      show sv_T sm_XS sm_cs sm_L sm_sh ((if 0 < (S 1021 0) then 11 else 30 * (20 - (S 1023 0)) + 24)).toNat (q_conditional p1 S) 48 40 [(0, .ref 0), (1, sv_I p1), (2, sv_I r9)] [sv_I r25] (sv_sts (sv_up (sv_sts S [1020, 1021, 1022, 1023, 5, 1011, 3, 4, 1007, 1009, 11, 12, 13, 14, 1024, 15, 16, 1031, 1032, 17, 18, 19, 20, 21, 22, 23, 24, 25, 1042, 1043, 1044, 1045, 1100001, 1100002, 1100005, 1100003, 1100004, 1100018, 1100019, 1100016, 1100035, 1100036] g5) 1020 0 ((g5 1020 0) + (1 : Int))) [1020, 1021, 1022, 1023, 5, 1011, 3, 4, 1007, 1009, 11, 12, 13, 14, 1024, 15, 16, 1031, 1032, 17, 18, 19, 20, 21, 22, 23, 24, 25, 1042, 1043, 1044, 1045, 1100001, 1100002, 1100005, 1100003, 1100004, 1100018, 1100019, 1100016, 1100035, 1100036] g21)
      have md26 : sv_mod [1020, 1021, 1022, 1023, 5, 1011, 3, 4, 1007, 1009, 11, 12, 13, 14, 1024, 15, 16, 1031, 1032, 17, 18, 19, 20, 21, 22, 23, 24, 25, 1042, 1043, 1044, 1045, 1100001, 1100002, 1100005, 1100003, 1100004, 1100018, 1100019, 1100016, 1100035, 1100036] S (sv_sts (sv_up (sv_sts S [1020, 1021, 1022, 1023, 5, 1011, 3, 4, 1007, 1009, 11, 12, 13, 14, 1024, 15, 16, 1031, 1032, 17, 18, 19, 20, 21, 22, 23, 24, 25, 1042, 1043, 1044, 1045, 1100001, 1100002, 1100005, 1100003, 1100004, 1100018, 1100019, 1100016, 1100035, 1100036] g5) 1020 0 ((g5 1020 0) + (1 : Int))) [1020, 1021, 1022, 1023, 5, 1011, 3, 4, 1007, 1009, 11, 12, 13, 14, 1024, 15, 16, 1031, 1032, 17, 18, 19, 20, 21, 22, 23, 24, 25, 1042, 1043, 1044, 1045, 1100001, 1100002, 1100005, 1100003, 1100004, 1100018, 1100019, 1100016, 1100035, 1100036] g21) := sv_mod.sts md17 (by decide)
      have h := h r25 hr25 g21 hpo24
      refine sv_istore_n hM dX12_conditional_40 (by decide) rfl ?_
      show sv_T sm_XS sm_cs sm_L sm_sh ((if 0 < (S 1021 0) then 11 else 30 * (20 - (S 1023 0)) + 24)).toNat (q_conditional p1 S) 48 41 [(0, .ref 0), (1, sv_I p1), (2, sv_I r9), (3, sv_I r25)] [] (sv_sts (sv_up (sv_sts S [1020, 1021, 1022, 1023, 5, 1011, 3, 4, 1007, 1009, 11, 12, 13, 14, 1024, 15, 16, 1031, 1032, 17, 18, 19, 20, 21, 22, 23, 24, 25, 1042, 1043, 1044, 1045, 1100001, 1100002, 1100005, 1100003, 1100004, 1100018, 1100019, 1100016, 1100035, 1100036] g5) 1020 0 ((g5 1020 0) + (1 : Int))) [1020, 1021, 1022, 1023, 5, 1011, 3, 4, 1007, 1009, 11, 12, 13, 14, 1024, 15, 16, 1031, 1032, 17, 18, 19, 20, 21, 22, 23, 24, 25, 1042, 1043, 1044, 1045, 1100001, 1100002, 1100005, 1100003, 1100004, 1100018, 1100019, 1100016, 1100035, 1100036] g21)
      refine sv_aload_n hM dX12_conditional_41 rfl rfl ?_
      refine sv_bipush (d := (46 : Int)) hM dX12_conditional_42 rfl rfl ?_
      obtain ⟨o27, h⟩ := h
      obtain ⟨o28, h⟩ := h
      refine sv_callV hM dX12_conditional_44 sm_iv_473 (by decide) (sm_a0 _) rfl rfl (Nat.le_of_ble_eq_true rfl) sm_h26 (Nat.le_of_ble_eq_true rfl) (Nat.le_of_ble_eq_true rfl) (F' := 1) (sv_Fn (n := 1) o28) rfl (t_must (46 : Int) (sv_sts (sv_up (sv_sts S [1020, 1021, 1022, 1023, 5, 1011, 3, 4, 1007, 1009, 11, 12, 13, 14, 1024, 15, 16, 1031, 1032, 17, 18, 19, 20, 21, 22, 23, 24, 25, 1042, 1043, 1044, 1045, 1100001, 1100002, 1100005, 1100003, 1100004, 1100018, 1100019, 1100016, 1100035, 1100036] g5) 1020 0 ((g5 1020 0) + (1 : Int))) [1020, 1021, 1022, 1023, 5, 1011, 3, 4, 1007, 1009, 11, 12, 13, 14, 1024, 15, 16, 1031, 1032, 17, 18, 19, 20, 21, 22, 23, 24, 25, 1042, 1043, 1044, 1045, 1100001, 1100002, 1100005, 1100003, 1100004, 1100018, 1100019, 1100016, 1100035, 1100036] g21) ok22 (⟨by decide, by decide⟩ : sv_R (46 : Int)) o27) (fun v S1 hq => ?_)
      obtain ⟨r33, rfl, hr33, ok30, md31, hpo32⟩ := hq
      obtain ⟨g29, rfl⟩ : ∃ g, S1 = sv_sts (sv_sts (sv_up (sv_sts S [1020, 1021, 1022, 1023, 5, 1011, 3, 4, 1007, 1009, 11, 12, 13, 14, 1024, 15, 16, 1031, 1032, 17, 18, 19, 20, 21, 22, 23, 24, 25, 1042, 1043, 1044, 1045, 1100001, 1100002, 1100005, 1100003, 1100004, 1100018, 1100019, 1100016, 1100035, 1100036] g5) 1020 0 ((g5 1020 0) + (1 : Int))) [1020, 1021, 1022, 1023, 5, 1011, 3, 4, 1007, 1009, 11, 12, 13, 14, 1024, 15, 16, 1031, 1032, 17, 18, 19, 20, 21, 22, 23, 24, 25, 1042, 1043, 1044, 1045, 1100001, 1100002, 1100005, 1100003, 1100004, 1100018, 1100019, 1100016, 1100035, 1100036] g21) [1021, 1022, 1020] g := ⟨_, md31.eq⟩
      show sv_T sm_XS sm_cs sm_L sm_sh ((if 0 < (S 1021 0) then 11 else 30 * (20 - (S 1023 0)) + 24)).toNat (q_conditional p1 S) 48 47 [(0, .ref 0), (1, sv_I p1), (2, sv_I r9), (3, sv_I r25)] [sv_I r33] (sv_sts (sv_sts (sv_up (sv_sts S [1020, 1021, 1022, 1023, 5, 1011, 3, 4, 1007, 1009, 11, 12, 13, 14, 1024, 15, 16, 1031, 1032, 17, 18, 19, 20, 21, 22, 23, 24, 25, 1042, 1043, 1044, 1045, 1100001, 1100002, 1100005, 1100003, 1100004, 1100018, 1100019, 1100016, 1100035, 1100036] g5) 1020 0 ((g5 1020 0) + (1 : Int))) [1020, 1021, 1022, 1023, 5, 1011, 3, 4, 1007, 1009, 11, 12, 13, 14, 1024, 15, 16, 1031, 1032, 17, 18, 19, 20, 21, 22, 23, 24, 25, 1042, 1043, 1044, 1045, 1100001, 1100002, 1100005, 1100003, 1100004, 1100018, 1100019, 1100016, 1100035, 1100036] g21) [1021, 1022, 1020] g29)
      have md34 : sv_mod [1020, 1021, 1022, 1023, 5, 1011, 3, 4, 1007, 1009, 11, 12, 13, 14, 1024, 15, 16, 1031, 1032, 17, 18, 19, 20, 21, 22, 23, 24, 25, 1042, 1043, 1044, 1045, 1100001, 1100002, 1100005, 1100003, 1100004, 1100018, 1100019, 1100016, 1100035, 1100036] S (sv_sts (sv_sts (sv_up (sv_sts S [1020, 1021, 1022, 1023, 5, 1011, 3, 4, 1007, 1009, 11, 12, 13, 14, 1024, 15, 16, 1031, 1032, 17, 18, 19, 20, 21, 22, 23, 24, 25, 1042, 1043, 1044, 1045, 1100001, 1100002, 1100005, 1100003, 1100004, 1100018, 1100019, 1100016, 1100035, 1100036] g5) 1020 0 ((g5 1020 0) + (1 : Int))) [1020, 1021, 1022, 1023, 5, 1011, 3, 4, 1007, 1009, 11, 12, 13, 14, 1024, 15, 16, 1031, 1032, 17, 18, 19, 20, 21, 22, 23, 24, 25, 1042, 1043, 1044, 1045, 1100001, 1100002, 1100005, 1100003, 1100004, 1100018, 1100019, 1100016, 1100035, 1100036] g21) [1021, 1022, 1020] g29) := sv_mod.sts md26 (by decide)
      have h := h r33 hr33 g29 hpo32
      refine sv_cond_ne hM dX12_conditional_47 hr33 (t := 52) rfl rfl (fun hc => ?_) (fun hc => ?_)
      · have h := h.1 (hc)
        refine sv_aload_n hM dX12_conditional_52 rfl rfl ?_
        refine sv_bipush (d := (14 : Int)) hM dX12_conditional_53 rfl rfl ?_
        refine sv_iload_n hM dX12_conditional_55 rfl rfl ?_
        refine sv_iload_n hM dX12_conditional_56 rfl rfl ?_
        refine sv_aload_n hM dX12_conditional_57 rfl rfl ?_
        refine sv_iload_n hM dX12_conditional_58 rfl rfl ?_
        obtain ⟨o35, h⟩ := h
        obtain ⟨o36, h⟩ := h
        obtain ⟨o37, h⟩ := h
        refine sv_callV hM dX12_conditional_59 sm_iv_466 (by decide) (sm_a0 _) rfl rfl (Nat.le_of_ble_eq_true rfl) sm_h46 (Nat.le_of_ble_eq_true rfl) (Nat.le_of_ble_eq_true rfl) (F' := ((30 * (20 - (g21 1023 0)) + 14)).toNat) (sv_Fe o37) rfl ((IH (30 * (20 - (g21 1023 0)) + 14) o36.1 o36.2).2.1 p1 (sv_sts (sv_sts (sv_up (sv_sts S [1020, 1021, 1022, 1023, 5, 1011, 3, 4, 1007, 1009, 11, 12, 13, 14, 1024, 15, 16, 1031, 1032, 17, 18, 19, 20, 21, 22, 23, 24, 25, 1042, 1043, 1044, 1045, 1100001, 1100002, 1100005, 1100003, 1100004, 1100018, 1100019, 1100016, 1100035, 1100036] g5) 1020 0 ((g5 1020 0) + (1 : Int))) [1020, 1021, 1022, 1023, 5, 1011, 3, 4, 1007, 1009, 11, 12, 13, 14, 1024, 15, 16, 1031, 1032, 17, 18, 19, 20, 21, 22, 23, 24, 25, 1042, 1043, 1044, 1045, 1100001, 1100002, 1100005, 1100003, 1100004, 1100018, 1100019, 1100016, 1100035, 1100036] g21) [1021, 1022, 1020] g29) ok30 o1 o35 rfl) (fun v S1 hq => ?_)
        obtain ⟨r42, rfl, hr42, ok39, md40, hpo41⟩ := hq
        obtain ⟨g38, rfl⟩ : ∃ g, S1 = sv_sts (sv_sts (sv_sts (sv_up (sv_sts S [1020, 1021, 1022, 1023, 5, 1011, 3, 4, 1007, 1009, 11, 12, 13, 14, 1024, 15, 16, 1031, 1032, 17, 18, 19, 20, 21, 22, 23, 24, 25, 1042, 1043, 1044, 1045, 1100001, 1100002, 1100005, 1100003, 1100004, 1100018, 1100019, 1100016, 1100035, 1100036] g5) 1020 0 ((g5 1020 0) + (1 : Int))) [1020, 1021, 1022, 1023, 5, 1011, 3, 4, 1007, 1009, 11, 12, 13, 14, 1024, 15, 16, 1031, 1032, 17, 18, 19, 20, 21, 22, 23, 24, 25, 1042, 1043, 1044, 1045, 1100001, 1100002, 1100005, 1100003, 1100004, 1100018, 1100019, 1100016, 1100035, 1100036] g21) [1021, 1022, 1020] g29) [1020, 1021, 1022, 1023, 5, 1011, 3, 4, 1007, 1009, 11, 12, 13, 14, 1024, 15, 16, 1031, 1032, 17, 18, 19, 20, 21, 22, 23, 24, 25, 1042, 1043, 1044, 1045, 1100001, 1100002, 1100005, 1100003, 1100004, 1100018, 1100019, 1100016, 1100035, 1100036] g := ⟨_, md40.eq⟩
        show sv_T sm_XS sm_cs sm_L sm_sh ((if 0 < (S 1021 0) then 11 else 30 * (20 - (S 1023 0)) + 24)).toNat (q_conditional p1 S) 48 62 [(0, .ref 0), (1, sv_I p1), (2, sv_I r9), (3, sv_I r25)] [sv_I r42, sv_I r25, sv_I r9, sv_I (14 : Int), .ref 0] (sv_sts (sv_sts (sv_sts (sv_up (sv_sts S [1020, 1021, 1022, 1023, 5, 1011, 3, 4, 1007, 1009, 11, 12, 13, 14, 1024, 15, 16, 1031, 1032, 17, 18, 19, 20, 21, 22, 23, 24, 25, 1042, 1043, 1044, 1045, 1100001, 1100002, 1100005, 1100003, 1100004, 1100018, 1100019, 1100016, 1100035, 1100036] g5) 1020 0 ((g5 1020 0) + (1 : Int))) [1020, 1021, 1022, 1023, 5, 1011, 3, 4, 1007, 1009, 11, 12, 13, 14, 1024, 15, 16, 1031, 1032, 17, 18, 19, 20, 21, 22, 23, 24, 25, 1042, 1043, 1044, 1045, 1100001, 1100002, 1100005, 1100003, 1100004, 1100018, 1100019, 1100016, 1100035, 1100036] g21) [1021, 1022, 1020] g29) [1020, 1021, 1022, 1023, 5, 1011, 3, 4, 1007, 1009, 11, 12, 13, 14, 1024, 15, 16, 1031, 1032, 17, 18, 19, 20, 21, 22, 23, 24, 25, 1042, 1043, 1044, 1045, 1100001, 1100002, 1100005, 1100003, 1100004, 1100018, 1100019, 1100016, 1100035, 1100036] g38)
        have md43 : sv_mod [1020, 1021, 1022, 1023, 5, 1011, 3, 4, 1007, 1009, 11, 12, 13, 14, 1024, 15, 16, 1031, 1032, 17, 18, 19, 20, 21, 22, 23, 24, 25, 1042, 1043, 1044, 1045, 1100001, 1100002, 1100005, 1100003, 1100004, 1100018, 1100019, 1100016, 1100035, 1100036] S (sv_sts (sv_sts (sv_sts (sv_up (sv_sts S [1020, 1021, 1022, 1023, 5, 1011, 3, 4, 1007, 1009, 11, 12, 13, 14, 1024, 15, 16, 1031, 1032, 17, 18, 19, 20, 21, 22, 23, 24, 25, 1042, 1043, 1044, 1045, 1100001, 1100002, 1100005, 1100003, 1100004, 1100018, 1100019, 1100016, 1100035, 1100036] g5) 1020 0 ((g5 1020 0) + (1 : Int))) [1020, 1021, 1022, 1023, 5, 1011, 3, 4, 1007, 1009, 11, 12, 13, 14, 1024, 15, 16, 1031, 1032, 17, 18, 19, 20, 21, 22, 23, 24, 25, 1042, 1043, 1044, 1045, 1100001, 1100002, 1100005, 1100003, 1100004, 1100018, 1100019, 1100016, 1100035, 1100036] g21) [1021, 1022, 1020] g29) [1020, 1021, 1022, 1023, 5, 1011, 3, 4, 1007, 1009, 11, 12, 13, 14, 1024, 15, 16, 1031, 1032, 17, 18, 19, 20, 21, 22, 23, 24, 25, 1042, 1043, 1044, 1045, 1100001, 1100002, 1100005, 1100003, 1100004, 1100018, 1100019, 1100016, 1100035, 1100036] g38) := sv_mod.sts md34 (by decide)
        have h := h r42 hr42 g38 hpo41
        obtain ⟨o44, h⟩ := h
        refine sv_callV hM dX12_conditional_62 sm_iv_446 (by decide) (sm_a0 _) rfl rfl (Nat.le_of_ble_eq_true rfl) sm_h33 (Nat.le_of_ble_eq_true rfl) (Nat.le_of_ble_eq_true rfl) (F' := 0) (sv_Fn (n := 0) o13) rfl (t_nodeR (14 : Int) r9 r25 r42 (sv_sts (sv_sts (sv_sts (sv_up (sv_sts S [1020, 1021, 1022, 1023, 5, 1011, 3, 4, 1007, 1009, 11, 12, 13, 14, 1024, 15, 16, 1031, 1032, 17, 18, 19, 20, 21, 22, 23, 24, 25, 1042, 1043, 1044, 1045, 1100001, 1100002, 1100005, 1100003, 1100004, 1100018, 1100019, 1100016, 1100035, 1100036] g5) 1020 0 ((g5 1020 0) + (1 : Int))) [1020, 1021, 1022, 1023, 5, 1011, 3, 4, 1007, 1009, 11, 12, 13, 14, 1024, 15, 16, 1031, 1032, 17, 18, 19, 20, 21, 22, 23, 24, 25, 1042, 1043, 1044, 1045, 1100001, 1100002, 1100005, 1100003, 1100004, 1100018, 1100019, 1100016, 1100035, 1100036] g21) [1021, 1022, 1020] g29) [1020, 1021, 1022, 1023, 5, 1011, 3, 4, 1007, 1009, 11, 12, 13, 14, 1024, 15, 16, 1031, 1032, 17, 18, 19, 20, 21, 22, 23, 24, 25, 1042, 1043, 1044, 1045, 1100001, 1100002, 1100005, 1100003, 1100004, 1100018, 1100019, 1100016, 1100035, 1100036] g38) ok39 (⟨by decide, by decide⟩ : sv_R (14 : Int)) hr9 hr25 hr42 o44) (fun v S1 hq => ?_)
        obtain ⟨r49, rfl, hr49, ok46, md47, hpo48⟩ := hq
        obtain ⟨g45, rfl⟩ : ∃ g, S1 = sv_sts (sv_sts (sv_sts (sv_sts (sv_up (sv_sts S [1020, 1021, 1022, 1023, 5, 1011, 3, 4, 1007, 1009, 11, 12, 13, 14, 1024, 15, 16, 1031, 1032, 17, 18, 19, 20, 21, 22, 23, 24, 25, 1042, 1043, 1044, 1045, 1100001, 1100002, 1100005, 1100003, 1100004, 1100018, 1100019, 1100016, 1100035, 1100036] g5) 1020 0 ((g5 1020 0) + (1 : Int))) [1020, 1021, 1022, 1023, 5, 1011, 3, 4, 1007, 1009, 11, 12, 13, 14, 1024, 15, 16, 1031, 1032, 17, 18, 19, 20, 21, 22, 23, 24, 25, 1042, 1043, 1044, 1045, 1100001, 1100002, 1100005, 1100003, 1100004, 1100018, 1100019, 1100016, 1100035, 1100036] g21) [1021, 1022, 1020] g29) [1020, 1021, 1022, 1023, 5, 1011, 3, 4, 1007, 1009, 11, 12, 13, 14, 1024, 15, 16, 1031, 1032, 17, 18, 19, 20, 21, 22, 23, 24, 25, 1042, 1043, 1044, 1045, 1100001, 1100002, 1100005, 1100003, 1100004, 1100018, 1100019, 1100016, 1100035, 1100036] g38) [1024, 11, 12, 13, 14, 1100019, 1100035] g := ⟨_, md47.eq⟩
        show sv_T sm_XS sm_cs sm_L sm_sh ((if 0 < (S 1021 0) then 11 else 30 * (20 - (S 1023 0)) + 24)).toNat (q_conditional p1 S) 48 65 [(0, .ref 0), (1, sv_I p1), (2, sv_I r9), (3, sv_I r25)] [sv_I r49] (sv_sts (sv_sts (sv_sts (sv_sts (sv_up (sv_sts S [1020, 1021, 1022, 1023, 5, 1011, 3, 4, 1007, 1009, 11, 12, 13, 14, 1024, 15, 16, 1031, 1032, 17, 18, 19, 20, 21, 22, 23, 24, 25, 1042, 1043, 1044, 1045, 1100001, 1100002, 1100005, 1100003, 1100004, 1100018, 1100019, 1100016, 1100035, 1100036] g5) 1020 0 ((g5 1020 0) + (1 : Int))) [1020, 1021, 1022, 1023, 5, 1011, 3, 4, 1007, 1009, 11, 12, 13, 14, 1024, 15, 16, 1031, 1032, 17, 18, 19, 20, 21, 22, 23, 24, 25, 1042, 1043, 1044, 1045, 1100001, 1100002, 1100005, 1100003, 1100004, 1100018, 1100019, 1100016, 1100035, 1100036] g21) [1021, 1022, 1020] g29) [1020, 1021, 1022, 1023, 5, 1011, 3, 4, 1007, 1009, 11, 12, 13, 14, 1024, 15, 16, 1031, 1032, 17, 18, 19, 20, 21, 22, 23, 24, 25, 1042, 1043, 1044, 1045, 1100001, 1100002, 1100005, 1100003, 1100004, 1100018, 1100019, 1100016, 1100035, 1100036] g38) [1024, 11, 12, 13, 14, 1100019, 1100035] g45)
        have md50 : sv_mod [1020, 1021, 1022, 1023, 5, 1011, 3, 4, 1007, 1009, 11, 12, 13, 14, 1024, 15, 16, 1031, 1032, 17, 18, 19, 20, 21, 22, 23, 24, 25, 1042, 1043, 1044, 1045, 1100001, 1100002, 1100005, 1100003, 1100004, 1100018, 1100019, 1100016, 1100035, 1100036] S (sv_sts (sv_sts (sv_sts (sv_sts (sv_up (sv_sts S [1020, 1021, 1022, 1023, 5, 1011, 3, 4, 1007, 1009, 11, 12, 13, 14, 1024, 15, 16, 1031, 1032, 17, 18, 19, 20, 21, 22, 23, 24, 25, 1042, 1043, 1044, 1045, 1100001, 1100002, 1100005, 1100003, 1100004, 1100018, 1100019, 1100016, 1100035, 1100036] g5) 1020 0 ((g5 1020 0) + (1 : Int))) [1020, 1021, 1022, 1023, 5, 1011, 3, 4, 1007, 1009, 11, 12, 13, 14, 1024, 15, 16, 1031, 1032, 17, 18, 19, 20, 21, 22, 23, 24, 25, 1042, 1043, 1044, 1045, 1100001, 1100002, 1100005, 1100003, 1100004, 1100018, 1100019, 1100016, 1100035, 1100036] g21) [1021, 1022, 1020] g29) [1020, 1021, 1022, 1023, 5, 1011, 3, 4, 1007, 1009, 11, 12, 13, 14, 1024, 15, 16, 1031, 1032, 17, 18, 19, 20, 21, 22, 23, 24, 25, 1042, 1043, 1044, 1045, 1100001, 1100002, 1100005, 1100003, 1100004, 1100018, 1100019, 1100016, 1100035, 1100036] g38) [1024, 11, 12, 13, 14, 1100019, 1100035] g45) := sv_mod.sts md43 (by decide)
        have h := h r49 hr49 g45 hpo48
        refine sv_ghost sm_X 1100001 r49 (1 : Int) (by decide) ?_
        have ok51 : sm_ok (sv_up (sv_sts (sv_sts (sv_sts (sv_sts (sv_up (sv_sts S [1020, 1021, 1022, 1023, 5, 1011, 3, 4, 1007, 1009, 11, 12, 13, 14, 1024, 15, 16, 1031, 1032, 17, 18, 19, 20, 21, 22, 23, 24, 25, 1042, 1043, 1044, 1045, 1100001, 1100002, 1100005, 1100003, 1100004, 1100018, 1100019, 1100016, 1100035, 1100036] g5) 1020 0 ((g5 1020 0) + (1 : Int))) [1020, 1021, 1022, 1023, 5, 1011, 3, 4, 1007, 1009, 11, 12, 13, 14, 1024, 15, 16, 1031, 1032, 17, 18, 19, 20, 21, 22, 23, 24, 25, 1042, 1043, 1044, 1045, 1100001, 1100002, 1100005, 1100003, 1100004, 1100018, 1100019, 1100016, 1100035, 1100036] g21) [1021, 1022, 1020] g29) [1020, 1021, 1022, 1023, 5, 1011, 3, 4, 1007, 1009, 11, 12, 13, 14, 1024, 15, 16, 1031, 1032, 17, 18, 19, 20, 21, 22, 23, 24, 25, 1042, 1043, 1044, 1045, 1100001, 1100002, 1100005, 1100003, 1100004, 1100018, 1100019, 1100016, 1100035, 1100036] g38) [1024, 11, 12, 13, 14, 1100019, 1100035] g45) 1100001 r49 (1 : Int)) := sm_upI ok46 sm_r1100001 (⟨by decide, by decide⟩ : sv_R (1 : Int))
        have md52 : sv_mod [1020, 1021, 1022, 1023, 5, 1011, 3, 4, 1007, 1009, 11, 12, 13, 14, 1024, 15, 16, 1031, 1032, 17, 18, 19, 20, 21, 22, 23, 24, 25, 1042, 1043, 1044, 1045, 1100001, 1100002, 1100005, 1100003, 1100004, 1100018, 1100019, 1100016, 1100035, 1100036] S (sv_up (sv_sts (sv_sts (sv_sts (sv_sts (sv_up (sv_sts S [1020, 1021, 1022, 1023, 5, 1011, 3, 4, 1007, 1009, 11, 12, 13, 14, 1024, 15, 16, 1031, 1032, 17, 18, 19, 20, 21, 22, 23, 24, 25, 1042, 1043, 1044, 1045, 1100001, 1100002, 1100005, 1100003, 1100004, 1100018, 1100019, 1100016, 1100035, 1100036] g5) 1020 0 ((g5 1020 0) + (1 : Int))) [1020, 1021, 1022, 1023, 5, 1011, 3, 4, 1007, 1009, 11, 12, 13, 14, 1024, 15, 16, 1031, 1032, 17, 18, 19, 20, 21, 22, 23, 24, 25, 1042, 1043, 1044, 1045, 1100001, 1100002, 1100005, 1100003, 1100004, 1100018, 1100019, 1100016, 1100035, 1100036] g21) [1021, 1022, 1020] g29) [1020, 1021, 1022, 1023, 5, 1011, 3, 4, 1007, 1009, 11, 12, 13, 14, 1024, 15, 16, 1031, 1032, 17, 18, 19, 20, 21, 22, 23, 24, 25, 1042, 1043, 1044, 1045, 1100001, 1100002, 1100005, 1100003, 1100004, 1100018, 1100019, 1100016, 1100035, 1100036] g38) [1024, 11, 12, 13, 14, 1100019, 1100035] g45) 1100001 r49 (1 : Int)) := sv_mod.up md50 (by decide)
        obtain ⟨o53, h⟩ := h
        refine sv_ghost sm_X 1100002 r49 ((17 * (20 - (S 1023 0)) + 17)) (by decide) ?_
        have ok54 : sm_ok (sv_up (sv_up (sv_sts (sv_sts (sv_sts (sv_sts (sv_up (sv_sts S [1020, 1021, 1022, 1023, 5, 1011, 3, 4, 1007, 1009, 11, 12, 13, 14, 1024, 15, 16, 1031, 1032, 17, 18, 19, 20, 21, 22, 23, 24, 25, 1042, 1043, 1044, 1045, 1100001, 1100002, 1100005, 1100003, 1100004, 1100018, 1100019, 1100016, 1100035, 1100036] g5) 1020 0 ((g5 1020 0) + (1 : Int))) [1020, 1021, 1022, 1023, 5, 1011, 3, 4, 1007, 1009, 11, 12, 13, 14, 1024, 15, 16, 1031, 1032, 17, 18, 19, 20, 21, 22, 23, 24, 25, 1042, 1043, 1044, 1045, 1100001, 1100002, 1100005, 1100003, 1100004, 1100018, 1100019, 1100016, 1100035, 1100036] g21) [1021, 1022, 1020] g29) [1020, 1021, 1022, 1023, 5, 1011, 3, 4, 1007, 1009, 11, 12, 13, 14, 1024, 15, 16, 1031, 1032, 17, 18, 19, 20, 21, 22, 23, 24, 25, 1042, 1043, 1044, 1045, 1100001, 1100002, 1100005, 1100003, 1100004, 1100018, 1100019, 1100016, 1100035, 1100036] g38) [1024, 11, 12, 13, 14, 1100019, 1100035] g45) 1100001 r49 (1 : Int)) 1100002 r49 ((17 * (20 - (S 1023 0)) + 17))) := sm_upI ok51 sm_r1100002 o53
        have md55 : sv_mod [1020, 1021, 1022, 1023, 5, 1011, 3, 4, 1007, 1009, 11, 12, 13, 14, 1024, 15, 16, 1031, 1032, 17, 18, 19, 20, 21, 22, 23, 24, 25, 1042, 1043, 1044, 1045, 1100001, 1100002, 1100005, 1100003, 1100004, 1100018, 1100019, 1100016, 1100035, 1100036] S (sv_up (sv_up (sv_sts (sv_sts (sv_sts (sv_sts (sv_up (sv_sts S [1020, 1021, 1022, 1023, 5, 1011, 3, 4, 1007, 1009, 11, 12, 13, 14, 1024, 15, 16, 1031, 1032, 17, 18, 19, 20, 21, 22, 23, 24, 25, 1042, 1043, 1044, 1045, 1100001, 1100002, 1100005, 1100003, 1100004, 1100018, 1100019, 1100016, 1100035, 1100036] g5) 1020 0 ((g5 1020 0) + (1 : Int))) [1020, 1021, 1022, 1023, 5, 1011, 3, 4, 1007, 1009, 11, 12, 13, 14, 1024, 15, 16, 1031, 1032, 17, 18, 19, 20, 21, 22, 23, 24, 25, 1042, 1043, 1044, 1045, 1100001, 1100002, 1100005, 1100003, 1100004, 1100018, 1100019, 1100016, 1100035, 1100036] g21) [1021, 1022, 1020] g29) [1020, 1021, 1022, 1023, 5, 1011, 3, 4, 1007, 1009, 11, 12, 13, 14, 1024, 15, 16, 1031, 1032, 17, 18, 19, 20, 21, 22, 23, 24, 25, 1042, 1043, 1044, 1045, 1100001, 1100002, 1100005, 1100003, 1100004, 1100018, 1100019, 1100016, 1100035, 1100036] g38) [1024, 11, 12, 13, 14, 1100019, 1100035] g45) 1100001 r49 (1 : Int)) 1100002 r49 ((17 * (20 - (S 1023 0)) + 17))) := sv_mod.up md52 (by decide)
        obtain ⟨o56, h⟩ := h
        refine sv_ghost sm_X 1100005 r49 ((20 - (S 1023 0))) (by decide) ?_
        have ok57 : sm_ok (sv_up (sv_up (sv_up (sv_sts (sv_sts (sv_sts (sv_sts (sv_up (sv_sts S [1020, 1021, 1022, 1023, 5, 1011, 3, 4, 1007, 1009, 11, 12, 13, 14, 1024, 15, 16, 1031, 1032, 17, 18, 19, 20, 21, 22, 23, 24, 25, 1042, 1043, 1044, 1045, 1100001, 1100002, 1100005, 1100003, 1100004, 1100018, 1100019, 1100016, 1100035, 1100036] g5) 1020 0 ((g5 1020 0) + (1 : Int))) [1020, 1021, 1022, 1023, 5, 1011, 3, 4, 1007, 1009, 11, 12, 13, 14, 1024, 15, 16, 1031, 1032, 17, 18, 19, 20, 21, 22, 23, 24, 25, 1042, 1043, 1044, 1045, 1100001, 1100002, 1100005, 1100003, 1100004, 1100018, 1100019, 1100016, 1100035, 1100036] g21) [1021, 1022, 1020] g29) [1020, 1021, 1022, 1023, 5, 1011, 3, 4, 1007, 1009, 11, 12, 13, 14, 1024, 15, 16, 1031, 1032, 17, 18, 19, 20, 21, 22, 23, 24, 25, 1042, 1043, 1044, 1045, 1100001, 1100002, 1100005, 1100003, 1100004, 1100018, 1100019, 1100016, 1100035, 1100036] g38) [1024, 11, 12, 13, 14, 1100019, 1100035] g45) 1100001 r49 (1 : Int)) 1100002 r49 ((17 * (20 - (S 1023 0)) + 17))) 1100005 r49 ((20 - (S 1023 0)))) := sm_upI ok54 sm_r1100005 o56
        have md58 : sv_mod [1020, 1021, 1022, 1023, 5, 1011, 3, 4, 1007, 1009, 11, 12, 13, 14, 1024, 15, 16, 1031, 1032, 17, 18, 19, 20, 21, 22, 23, 24, 25, 1042, 1043, 1044, 1045, 1100001, 1100002, 1100005, 1100003, 1100004, 1100018, 1100019, 1100016, 1100035, 1100036] S (sv_up (sv_up (sv_up (sv_sts (sv_sts (sv_sts (sv_sts (sv_up (sv_sts S [1020, 1021, 1022, 1023, 5, 1011, 3, 4, 1007, 1009, 11, 12, 13, 14, 1024, 15, 16, 1031, 1032, 17, 18, 19, 20, 21, 22, 23, 24, 25, 1042, 1043, 1044, 1045, 1100001, 1100002, 1100005, 1100003, 1100004, 1100018, 1100019, 1100016, 1100035, 1100036] g5) 1020 0 ((g5 1020 0) + (1 : Int))) [1020, 1021, 1022, 1023, 5, 1011, 3, 4, 1007, 1009, 11, 12, 13, 14, 1024, 15, 16, 1031, 1032, 17, 18, 19, 20, 21, 22, 23, 24, 25, 1042, 1043, 1044, 1045, 1100001, 1100002, 1100005, 1100003, 1100004, 1100018, 1100019, 1100016, 1100035, 1100036] g21) [1021, 1022, 1020] g29) [1020, 1021, 1022, 1023, 5, 1011, 3, 4, 1007, 1009, 11, 12, 13, 14, 1024, 15, 16, 1031, 1032, 17, 18, 19, 20, 21, 22, 23, 24, 25, 1042, 1043, 1044, 1045, 1100001, 1100002, 1100005, 1100003, 1100004, 1100018, 1100019, 1100016, 1100035, 1100036] g38) [1024, 11, 12, 13, 14, 1100019, 1100035] g45) 1100001 r49 (1 : Int)) 1100002 r49 ((17 * (20 - (S 1023 0)) + 17))) 1100005 r49 ((20 - (S 1023 0)))) := sv_mod.up md55 (by decide)
        refine sv_ghost sm_X 1100003 r49 (0 : Int) (by decide) ?_
        have ok59 : sm_ok (sv_up (sv_up (sv_up (sv_up (sv_sts (sv_sts (sv_sts (sv_sts (sv_up (sv_sts S [1020, 1021, 1022, 1023, 5, 1011, 3, 4, 1007, 1009, 11, 12, 13, 14, 1024, 15, 16, 1031, 1032, 17, 18, 19, 20, 21, 22, 23, 24, 25, 1042, 1043, 1044, 1045, 1100001, 1100002, 1100005, 1100003, 1100004, 1100018, 1100019, 1100016, 1100035, 1100036] g5) 1020 0 ((g5 1020 0) + (1 : Int))) [1020, 1021, 1022, 1023, 5, 1011, 3, 4, 1007, 1009, 11, 12, 13, 14, 1024, 15, 16, 1031, 1032, 17, 18, 19, 20, 21, 22, 23, 24, 25, 1042, 1043, 1044, 1045, 1100001, 1100002, 1100005, 1100003, 1100004, 1100018, 1100019, 1100016, 1100035, 1100036] g21) [1021, 1022, 1020] g29) [1020, 1021, 1022, 1023, 5, 1011, 3, 4, 1007, 1009, 11, 12, 13, 14, 1024, 15, 16, 1031, 1032, 17, 18, 19, 20, 21, 22, 23, 24, 25, 1042, 1043, 1044, 1045, 1100001, 1100002, 1100005, 1100003, 1100004, 1100018, 1100019, 1100016, 1100035, 1100036] g38) [1024, 11, 12, 13, 14, 1100019, 1100035] g45) 1100001 r49 (1 : Int)) 1100002 r49 ((17 * (20 - (S 1023 0)) + 17))) 1100005 r49 ((20 - (S 1023 0)))) 1100003 r49 (0 : Int)) := sm_upI ok57 sm_r1100003 (⟨by decide, by decide⟩ : sv_R (0 : Int))
        have md60 : sv_mod [1020, 1021, 1022, 1023, 5, 1011, 3, 4, 1007, 1009, 11, 12, 13, 14, 1024, 15, 16, 1031, 1032, 17, 18, 19, 20, 21, 22, 23, 24, 25, 1042, 1043, 1044, 1045, 1100001, 1100002, 1100005, 1100003, 1100004, 1100018, 1100019, 1100016, 1100035, 1100036] S (sv_up (sv_up (sv_up (sv_up (sv_sts (sv_sts (sv_sts (sv_sts (sv_up (sv_sts S [1020, 1021, 1022, 1023, 5, 1011, 3, 4, 1007, 1009, 11, 12, 13, 14, 1024, 15, 16, 1031, 1032, 17, 18, 19, 20, 21, 22, 23, 24, 25, 1042, 1043, 1044, 1045, 1100001, 1100002, 1100005, 1100003, 1100004, 1100018, 1100019, 1100016, 1100035, 1100036] g5) 1020 0 ((g5 1020 0) + (1 : Int))) [1020, 1021, 1022, 1023, 5, 1011, 3, 4, 1007, 1009, 11, 12, 13, 14, 1024, 15, 16, 1031, 1032, 17, 18, 19, 20, 21, 22, 23, 24, 25, 1042, 1043, 1044, 1045, 1100001, 1100002, 1100005, 1100003, 1100004, 1100018, 1100019, 1100016, 1100035, 1100036] g21) [1021, 1022, 1020] g29) [1020, 1021, 1022, 1023, 5, 1011, 3, 4, 1007, 1009, 11, 12, 13, 14, 1024, 15, 16, 1031, 1032, 17, 18, 19, 20, 21, 22, 23, 24, 25, 1042, 1043, 1044, 1045, 1100001, 1100002, 1100005, 1100003, 1100004, 1100018, 1100019, 1100016, 1100035, 1100036] g38) [1024, 11, 12, 13, 14, 1100019, 1100035] g45) 1100001 r49 (1 : Int)) 1100002 r49 ((17 * (20 - (S 1023 0)) + 17))) 1100005 r49 ((20 - (S 1023 0)))) 1100003 r49 (0 : Int)) := sv_mod.up md58 (by decide)
        refine sv_ghost sm_X 1100004 r49 (0 : Int) (by decide) ?_
        have ok61 : sm_ok (sv_up (sv_up (sv_up (sv_up (sv_up (sv_sts (sv_sts (sv_sts (sv_sts (sv_up (sv_sts S [1020, 1021, 1022, 1023, 5, 1011, 3, 4, 1007, 1009, 11, 12, 13, 14, 1024, 15, 16, 1031, 1032, 17, 18, 19, 20, 21, 22, 23, 24, 25, 1042, 1043, 1044, 1045, 1100001, 1100002, 1100005, 1100003, 1100004, 1100018, 1100019, 1100016, 1100035, 1100036] g5) 1020 0 ((g5 1020 0) + (1 : Int))) [1020, 1021, 1022, 1023, 5, 1011, 3, 4, 1007, 1009, 11, 12, 13, 14, 1024, 15, 16, 1031, 1032, 17, 18, 19, 20, 21, 22, 23, 24, 25, 1042, 1043, 1044, 1045, 1100001, 1100002, 1100005, 1100003, 1100004, 1100018, 1100019, 1100016, 1100035, 1100036] g21) [1021, 1022, 1020] g29) [1020, 1021, 1022, 1023, 5, 1011, 3, 4, 1007, 1009, 11, 12, 13, 14, 1024, 15, 16, 1031, 1032, 17, 18, 19, 20, 21, 22, 23, 24, 25, 1042, 1043, 1044, 1045, 1100001, 1100002, 1100005, 1100003, 1100004, 1100018, 1100019, 1100016, 1100035, 1100036] g38) [1024, 11, 12, 13, 14, 1100019, 1100035] g45) 1100001 r49 (1 : Int)) 1100002 r49 ((17 * (20 - (S 1023 0)) + 17))) 1100005 r49 ((20 - (S 1023 0)))) 1100003 r49 (0 : Int)) 1100004 r49 (0 : Int)) := sm_upI ok59 sm_r1100004 (⟨by decide, by decide⟩ : sv_R (0 : Int))
        have md62 : sv_mod [1020, 1021, 1022, 1023, 5, 1011, 3, 4, 1007, 1009, 11, 12, 13, 14, 1024, 15, 16, 1031, 1032, 17, 18, 19, 20, 21, 22, 23, 24, 25, 1042, 1043, 1044, 1045, 1100001, 1100002, 1100005, 1100003, 1100004, 1100018, 1100019, 1100016, 1100035, 1100036] S (sv_up (sv_up (sv_up (sv_up (sv_up (sv_sts (sv_sts (sv_sts (sv_sts (sv_up (sv_sts S [1020, 1021, 1022, 1023, 5, 1011, 3, 4, 1007, 1009, 11, 12, 13, 14, 1024, 15, 16, 1031, 1032, 17, 18, 19, 20, 21, 22, 23, 24, 25, 1042, 1043, 1044, 1045, 1100001, 1100002, 1100005, 1100003, 1100004, 1100018, 1100019, 1100016, 1100035, 1100036] g5) 1020 0 ((g5 1020 0) + (1 : Int))) [1020, 1021, 1022, 1023, 5, 1011, 3, 4, 1007, 1009, 11, 12, 13, 14, 1024, 15, 16, 1031, 1032, 17, 18, 19, 20, 21, 22, 23, 24, 25, 1042, 1043, 1044, 1045, 1100001, 1100002, 1100005, 1100003, 1100004, 1100018, 1100019, 1100016, 1100035, 1100036] g21) [1021, 1022, 1020] g29) [1020, 1021, 1022, 1023, 5, 1011, 3, 4, 1007, 1009, 11, 12, 13, 14, 1024, 15, 16, 1031, 1032, 17, 18, 19, 20, 21, 22, 23, 24, 25, 1042, 1043, 1044, 1045, 1100001, 1100002, 1100005, 1100003, 1100004, 1100018, 1100019, 1100016, 1100035, 1100036] g38) [1024, 11, 12, 13, 14, 1100019, 1100035] g45) 1100001 r49 (1 : Int)) 1100002 r49 ((17 * (20 - (S 1023 0)) + 17))) 1100005 r49 ((20 - (S 1023 0)))) 1100003 r49 (0 : Int)) 1100004 r49 (0 : Int)) := sv_mod.up md60 (by decide)
        have k63 : ((g38 1021 0) = 0 → sm_WG (g38 1100001) (g45 1100019) (g38 1043 0) → (g45 1100019 r49) = (g38 1043 0) → sm_WG (fun i' : Int => if i' = r49 then (1 : Int) else (g38 1100001) i') (g45 1100019) (g38 1043 0)) := fun _ a b => sm_WG_C a b
        have h := h k63
        have k64 : ((g38 1021 0) = 0 → sm_WF (g45 11) (g45 12) (g45 13) (g38 1100001) (g38 1100002) (g38 1100005) (g38 1100003) (g38 1100004) (g45 1024 0) (g38 1007 0) (g38 1009 0) (sm_fn (g38 1032 0) (g38 21) (g38 1043 0)) → (g38 1100001 r49) = 0 → 0 ≤ r49 → r49 < (g45 1024 0) → (g45 13 r49) = -1 → (g45 11 r49) = 14 → (sm_ex (g38 1100001) (g38 1100002) (g38 1100005) (g45 1024 0) 1 (g45 12 (5 * r49)) ((17 * (20 - (S 1023 0)) + 17) - 2) (20 - (S 1023 0))) → (sm_ex (g38 1100001) (g38 1100002) (g38 1100005) (g45 1024 0) 1 (g45 12 (5 * r49 + 1)) ((17 * (20 - (S 1023 0)) + 17) - 2) (20 - (S 1023 0))) → (sm_ex (g38 1100001) (g38 1100002) (g38 1100005) (g45 1024 0) 1 (g45 12 (5 * r49 + 2)) ((17 * (20 - (S 1023 0)) + 17) - 2) (20 - (S 1023 0))) → (0 ≤ (17 * (20 - (S 1023 0)) + 17)) → (0 ≤ (20 - (S 1023 0))) → sm_WF (g45 11) (g45 12) (g45 13) (fun i' : Int => if i' = r49 then (1 : Int) else (g38 1100001) i') (fun i' : Int => if i' = r49 then ((17 * (20 - (S 1023 0)) + 17)) else (g38 1100002) i') (fun i' : Int => if i' = r49 then ((20 - (S 1023 0))) else (g38 1100005) i') (fun i' : Int => if i' = r49 then (0 : Int) else (g38 1100003) i') (fun i' : Int => if i' = r49 then (0 : Int) else (g38 1100004) i') (g45 1024 0) (g38 1007 0) (g38 1009 0) (sm_fn (g38 1032 0) (g38 21) (g38 1043 0))) := fun a0 aW a1 a2 a3 a4 aS c1 c2 c3 c4 c5 => (sm_mk1 aW a1 a2 a3 a4 (Or.inr ⟨rfl, sm_c1_14 aS c1 c2 c3⟩) ⟨c4, fun q => absurd (aS.symm.trans q) (by decide), fun q => absurd q (by omega), c5⟩).1
        have h := h k64
        exact sv_iret hM dX12_conditional_65 rfl rfl ⟨r49, rfl, hr49, ok61, md62, h⟩
      · have h := h.2 (hc)
        refine sv_iconst (d := (-1 : Int)) hM dX12_conditional_50 rfl rfl ?_
        exact sv_iret hM dX12_conditional_51 rfl rfl ⟨(-1 : Int), rfl, (⟨by decide, by decide⟩ : sv_R (-1 : Int)), ok30, md34, h⟩
    · have h := h.2 (fun q => hc (by rw [if_pos q]; decide))
      refine sv_iload_n hM dX12_conditional_23 rfl rfl ?_
      exact sv_iret hM dX12_conditional_24 rfl rfl ⟨r9, rfl, hr9, ok6, md10, h⟩
