theorem dX12_expression_0 : decode cX12_expression 0 = .ok (.aload_n 0, 1) := by decide +kernel
theorem dX12_expression_1 : decode cX12_expression 1 = .ok (.iload_n 1, 1) := by decide +kernel
theorem dX12_expression_2 : decode cX12_expression 2 = .ok (.invokevirtual 442, 3) := by decide +kernel
theorem dX12_expression_5 : decode cX12_expression 5 = .ok (.istore_n 2, 1) := by decide +kernel
theorem dX12_expression_6 : decode cX12_expression 6 = .ok (.aload_n 0, 1) := by decide +kernel
theorem dX12_expression_7 : decode cX12_expression 7 = .ok (.getfield 389, 3) := by decide +kernel
theorem dX12_expression_10 : decode cX12_expression 10 = .ok (.ifCond .ne 38, 3) := by decide +kernel
theorem dX12_expression_13 : decode cX12_expression 13 = .ok (.aload_n 0, 1) := by decide +kernel
theorem dX12_expression_14 : decode cX12_expression 14 = .ok (.bipush 32, 2) := by decide +kernel
theorem dX12_expression_16 : decode cX12_expression 16 = .ok (.invokevirtual 398, 3) := by decide +kernel
theorem dX12_expression_19 : decode cX12_expression 19 = .ok (.ifCond .eq 29, 3) := by decide +kernel
theorem dX12_expression_22 : decode cX12_expression 22 = .ok (.aload_n 0, 1) := by decide +kernel
theorem dX12_expression_23 : decode cX12_expression 23 = .ok (.dup, 1) := by decide +kernel
theorem dX12_expression_24 : decode cX12_expression 24 = .ok (.getfield 392, 3) := by decide +kernel
theorem dX12_expression_27 : decode cX12_expression 27 = .ok (.iconst 1, 1) := by decide +kernel
theorem dX12_expression_28 : decode cX12_expression 28 = .ok (.iadd, 1) := by decide +kernel
theorem dX12_expression_29 : decode cX12_expression 29 = .ok (.putfield 392, 3) := by decide +kernel
theorem dX12_expression_32 : decode cX12_expression 32 = .ok (.aload_n 0, 1) := by decide +kernel
theorem dX12_expression_33 : decode cX12_expression 33 = .ok (.iconst 3, 1) := by decide +kernel
theorem dX12_expression_34 : decode cX12_expression 34 = .ok (.iload_n 2, 1) := by decide +kernel
theorem dX12_expression_35 : decode cX12_expression 35 = .ok (.aload_n 0, 1) := by decide +kernel
theorem dX12_expression_36 : decode cX12_expression 36 = .ok (.iload_n 1, 1) := by decide +kernel
theorem dX12_expression_37 : decode cX12_expression 37 = .ok (.invokevirtual 442, 3) := by decide +kernel
theorem dX12_expression_40 : decode cX12_expression 40 = .ok (.iconst 0, 1) := by decide +kernel
theorem dX12_expression_41 : decode cX12_expression 41 = .ok (.invokevirtual 446, 3) := by decide +kernel
theorem dX12_expression_44 : decode cX12_expression 44 = .ok (.istore_n 2, 1) := by decide +kernel
theorem dX12_expression_45 : decode cX12_expression 45 = .ok (.goto (-39), 3) := by decide +kernel
theorem dX12_expression_48 : decode cX12_expression 48 = .ok (.iload_n 2, 1) := by decide +kernel
theorem dX12_expression_49 : decode cX12_expression 49 = .ok (.ireturn, 1) := by decide +kernel
theorem dX12_opened_0 : decode cX12_opened 0 = .ok (.aload_n 0, 1) := by decide +kernel
theorem dX12_opened_1 : decode cX12_opened 1 = .ok (.aload_n 0, 1) := by decide +kernel
theorem dX12_opened_2 : decode cX12_opened 2 = .ok (.invokevirtual 439, 3) := by decide +kernel
theorem dX12_opened_5 : decode cX12_opened 5 = .ok (.invokevirtual 450, 3) := by decide +kernel
theorem dX12_opened_8 : decode cX12_opened 8 = .ok (.aload_n 0, 1) := by decide +kernel
theorem dX12_opened_9 : decode cX12_opened 9 = .ok (.iload_n 1, 1) := by decide +kernel
theorem dX12_opened_10 : decode cX12_opened 10 = .ok (.invokevirtual 442, 3) := by decide +kernel
theorem dX12_opened_13 : decode cX12_opened 13 = .ok (.istore_n 2, 1) := by decide +kernel
theorem dX12_opened_14 : decode cX12_opened 14 = .ok (.aload_n 0, 1) := by decide +kernel
theorem dX12_opened_15 : decode cX12_opened 15 = .ok (.invokevirtual 454, 3) := by decide +kernel
theorem dX12_opened_18 : decode cX12_opened 18 = .ok (.iload_n 2, 1) := by decide +kernel
theorem dX12_opened_19 : decode cX12_opened 19 = .ok (.ireturn, 1) := by decide +kernel
theorem dX12_assigned_0 : decode cX12_assigned 0 = .ok (.aload_n 0, 1) := by decide +kernel
theorem dX12_assigned_1 : decode cX12_assigned 1 = .ok (.iload_n 1, 1) := by decide +kernel
theorem dX12_assigned_2 : decode cX12_assigned 2 = .ok (.invokevirtual 457, 3) := by decide +kernel
theorem dX12_assigned_5 : decode cX12_assigned 5 = .ok (.istore_n 2, 1) := by decide +kernel
theorem dX12_assigned_6 : decode cX12_assigned 6 = .ok (.aload_n 0, 1) := by decide +kernel
theorem dX12_assigned_7 : decode cX12_assigned 7 = .ok (.getfield 389, 3) := by decide +kernel
theorem dX12_assigned_10 : decode cX12_assigned 10 = .ok (.ifCond .le 5, 3) := by decide +kernel
theorem dX12_assigned_13 : decode cX12_assigned 13 = .ok (.iconst (-1), 1) := by decide +kernel
theorem dX12_assigned_14 : decode cX12_assigned 14 = .ok (.ireturn, 1) := by decide +kernel
theorem dX12_assigned_15 : decode cX12_assigned 15 = .ok (.aload_n 0, 1) := by decide +kernel
theorem dX12_assigned_16 : decode cX12_assigned 16 = .ok (.invokevirtual 460, 3) := by decide +kernel
theorem dX12_assigned_19 : decode cX12_assigned 19 = .ok (.istore_n 3, 1) := by decide +kernel
theorem dX12_assigned_20 : decode cX12_assigned 20 = .ok (.iload_n 3, 1) := by decide +kernel
theorem dX12_assigned_21 : decode cX12_assigned 21 = .ok (.iconst (-1), 1) := by decide +kernel
theorem dX12_assigned_22 : decode cX12_assigned 22 = .ok (.if_icmp .ne 5, 3) := by decide +kernel
theorem dX12_assigned_25 : decode cX12_assigned 25 = .ok (.iload_n 2, 1) := by decide +kernel
theorem dX12_assigned_26 : decode cX12_assigned 26 = .ok (.ireturn, 1) := by decide +kernel
theorem dX12_assigned_27 : decode cX12_assigned 27 = .ok (.aload_n 0, 1) := by decide +kernel
theorem dX12_assigned_28 : decode cX12_assigned 28 = .ok (.iload_n 2, 1) := by decide +kernel
theorem dX12_assigned_29 : decode cX12_assigned 29 = .ok (.invokevirtual 463, 3) := by decide +kernel
theorem dX12_assigned_32 : decode cX12_assigned 32 = .ok (.ifCond .ne 11, 3) := by decide +kernel
theorem dX12_assigned_35 : decode cX12_assigned 35 = .ok (.aload_n 0, 1) := by decide +kernel
theorem dX12_assigned_36 : decode cX12_assigned 36 = .ok (.iconst 3, 1) := by decide +kernel
theorem dX12_assigned_37 : decode cX12_assigned 37 = .ok (.invokevirtual 401, 3) := by decide +kernel
theorem dX12_assigned_40 : decode cX12_assigned 40 = .ok (.pop, 1) := by decide +kernel
theorem dX12_assigned_41 : decode cX12_assigned 41 = .ok (.iconst (-1), 1) := by decide +kernel
theorem dX12_assigned_42 : decode cX12_assigned 42 = .ok (.ireturn, 1) := by decide +kernel
theorem dX12_assigned_43 : decode cX12_assigned 43 = .ok (.aload_n 0, 1) := by decide +kernel
theorem dX12_assigned_44 : decode cX12_assigned 44 = .ok (.dup, 1) := by decide +kernel
theorem dX12_assigned_45 : decode cX12_assigned 45 = .ok (.getfield 392, 3) := by decide +kernel
theorem dX12_assigned_48 : decode cX12_assigned 48 = .ok (.iconst 1, 1) := by decide +kernel
theorem dX12_assigned_49 : decode cX12_assigned 49 = .ok (.iadd, 1) := by decide +kernel
theorem dX12_assigned_50 : decode cX12_assigned 50 = .ok (.putfield 392, 3) := by decide +kernel
theorem dX12_assigned_53 : decode cX12_assigned 53 = .ok (.aload_n 0, 1) := by decide +kernel
theorem dX12_assigned_54 : decode cX12_assigned 54 = .ok (.bipush 15, 2) := by decide +kernel
theorem dX12_assigned_56 : decode cX12_assigned 56 = .ok (.iload_n 3, 1) := by decide +kernel
theorem dX12_assigned_57 : decode cX12_assigned 57 = .ok (.bipush 99, 2) := by decide +kernel
theorem dX12_assigned_59 : decode cX12_assigned 59 = .ok (.if_icmp .ne 7, 3) := by decide +kernel
theorem dX12_assigned_62 : decode cX12_assigned 62 = .ok (.iconst (-1), 1) := by decide +kernel
theorem dX12_assigned_63 : decode cX12_assigned 63 = .ok (.goto 4, 3) := by decide +kernel
theorem dX12_assigned_66 : decode cX12_assigned 66 = .ok (.iload_n 3, 1) := by decide +kernel
theorem dX12_assigned_67 : decode cX12_assigned 67 = .ok (.iload_n 2, 1) := by decide +kernel
theorem dX12_assigned_68 : decode cX12_assigned 68 = .ok (.aload_n 0, 1) := by decide +kernel
theorem dX12_assigned_69 : decode cX12_assigned 69 = .ok (.iload_n 1, 1) := by decide +kernel
theorem dX12_assigned_70 : decode cX12_assigned 70 = .ok (.invokevirtual 466, 3) := by decide +kernel
theorem dX12_assigned_73 : decode cX12_assigned 73 = .ok (.invokevirtual 446, 3) := by decide +kernel
theorem dX12_assigned_76 : decode cX12_assigned 76 = .ok (.ireturn, 1) := by decide +kernel
theorem dX12_conditional_0 : decode cX12_conditional 0 = .ok (.aload_n 0, 1) := by decide +kernel
theorem dX12_conditional_1 : decode cX12_conditional 1 = .ok (.iconst 0, 1) := by decide +kernel
theorem dX12_conditional_2 : decode cX12_conditional 2 = .ok (.iload_n 1, 1) := by decide +kernel
theorem dX12_conditional_3 : decode cX12_conditional 3 = .ok (.invokevirtual 469, 3) := by decide +kernel
theorem dX12_conditional_6 : decode cX12_conditional 6 = .ok (.istore_n 2, 1) := by decide +kernel
theorem dX12_conditional_7 : decode cX12_conditional 7 = .ok (.aload_n 0, 1) := by decide +kernel
theorem dX12_conditional_8 : decode cX12_conditional 8 = .ok (.getfield 389, 3) := by decide +kernel
theorem dX12_conditional_11 : decode cX12_conditional 11 = .ok (.ifCond .gt 12, 3) := by decide +kernel
theorem dX12_conditional_14 : decode cX12_conditional 14 = .ok (.aload_n 0, 1) := by decide +kernel
theorem dX12_conditional_15 : decode cX12_conditional 15 = .ok (.bipush 45, 2) := by decide +kernel
theorem dX12_conditional_17 : decode cX12_conditional 17 = .ok (.invokevirtual 398, 3) := by decide +kernel
theorem dX12_conditional_20 : decode cX12_conditional 20 = .ok (.ifCond .ne 5, 3) := by decide +kernel
theorem dX12_conditional_23 : decode cX12_conditional 23 = .ok (.iload_n 2, 1) := by decide +kernel
theorem dX12_conditional_24 : decode cX12_conditional 24 = .ok (.ireturn, 1) := by decide +kernel
theorem dX12_conditional_25 : decode cX12_conditional 25 = .ok (.aload_n 0, 1) := by decide +kernel
theorem dX12_conditional_26 : decode cX12_conditional 26 = .ok (.dup, 1) := by decide +kernel
theorem dX12_conditional_27 : decode cX12_conditional 27 = .ok (.getfield 392, 3) := by decide +kernel
theorem dX12_conditional_30 : decode cX12_conditional 30 = .ok (.iconst 1, 1) := by decide +kernel
theorem dX12_conditional_31 : decode cX12_conditional 31 = .ok (.iadd, 1) := by decide +kernel
theorem dX12_conditional_32 : decode cX12_conditional 32 = .ok (.putfield 392, 3) := by decide +kernel
theorem dX12_conditional_35 : decode cX12_conditional 35 = .ok (.aload_n 0, 1) := by decide +kernel
theorem dX12_conditional_36 : decode cX12_conditional 36 = .ok (.iload_n 1, 1) := by decide +kernel
theorem dX12_conditional_37 : decode cX12_conditional 37 = .ok (.invokevirtual 466, 3) := by decide +kernel
theorem dX12_conditional_40 : decode cX12_conditional 40 = .ok (.istore_n 3, 1) := by decide +kernel
theorem dX12_conditional_41 : decode cX12_conditional 41 = .ok (.aload_n 0, 1) := by decide +kernel
theorem dX12_conditional_42 : decode cX12_conditional 42 = .ok (.bipush 46, 2) := by decide +kernel
theorem dX12_conditional_44 : decode cX12_conditional 44 = .ok (.invokevirtual 473, 3) := by decide +kernel
theorem dX12_conditional_47 : decode cX12_conditional 47 = .ok (.ifCond .ne 5, 3) := by decide +kernel
theorem dX12_conditional_50 : decode cX12_conditional 50 = .ok (.iconst (-1), 1) := by decide +kernel
theorem dX12_conditional_51 : decode cX12_conditional 51 = .ok (.ireturn, 1) := by decide +kernel
theorem dX12_conditional_52 : decode cX12_conditional 52 = .ok (.aload_n 0, 1) := by decide +kernel
theorem dX12_conditional_53 : decode cX12_conditional 53 = .ok (.bipush 14, 2) := by decide +kernel
theorem dX12_conditional_55 : decode cX12_conditional 55 = .ok (.iload_n 2, 1) := by decide +kernel
theorem dX12_conditional_56 : decode cX12_conditional 56 = .ok (.iload_n 3, 1) := by decide +kernel
theorem dX12_conditional_57 : decode cX12_conditional 57 = .ok (.aload_n 0, 1) := by decide +kernel
theorem dX12_conditional_58 : decode cX12_conditional 58 = .ok (.iload_n 1, 1) := by decide +kernel
theorem dX12_conditional_59 : decode cX12_conditional 59 = .ok (.invokevirtual 466, 3) := by decide +kernel
theorem dX12_conditional_62 : decode cX12_conditional 62 = .ok (.invokevirtual 446, 3) := by decide +kernel
theorem dX12_conditional_65 : decode cX12_conditional 65 = .ok (.ireturn, 1) := by decide +kernel
theorem sm_ex_if {C M V : Int → Int} {N k r k0 m0 m v0 v : Int} (h0 : 0 ≤ r) (h1 : r < N) (hk : k0 = k) (hm : m0 ≤ m) (hv : v0 ≤ v) : sm_ex (fun i' : Int => if i' = r then k0 else C i') (fun i' : Int => if i' = r then m0 else M i') (fun i' : Int => if i' = r then v0 else V i') N k r m v := by
  refine ⟨h0, h1, ?_, ?_, ?_⟩ <;> dsimp only <;> rw [if_pos rfl] <;> assumption
theorem sm_ex_N {C M V : Int → Int} {N N' k e m v : Int} (h : sm_ex C M V N k e m v) (hN : N ≤ N') : sm_ex C M V N' k e m v := ⟨h.1, Int.lt_of_lt_of_le h.2.1 hN, h.2.2⟩
theorem sm_ex_ps {so C M V Lp Ws so' C' M' V' Lp' Ws' : Int → Int} {N k e m v : Int} (h : sm_PS so C M V Lp Ws so' C' M' V' Lp' Ws' N) (h2 : sm_ex C M V N k e m v) (hk : ¬ k = 0) : sm_ex C' M' V' N k e m v := (sm_PS_ex h h2 (Int.le_refl _) hk).1
theorem sm_li_w {C M V : Int → Int} {N N' k e m v m' v' : Int} (h : sm_li C M V N k e m v) (hm : m ≤ m') (hv : v ≤ v') (hN : N ≤ N') : sm_li C M V N' k e m' v' := h.imp id (fun q => sm_ex_N (sm_ex_w q hm hv) hN)
theorem sm_li_ps {so C M V Lp Ws so' C' M' V' Lp' Ws' : Int → Int} {N k e m v : Int} (h : sm_PS so C M V Lp Ws so' C' M' V' Lp' Ws' N) (h2 : sm_li C M V N k e m v) (hk : ¬ k = 0) : sm_li C' M' V' N k e m v := h2.imp id (fun q => sm_ex_ps h q hk)
theorem sm_li_eq {C M V : Int → Int} {N k e e' m v : Int} (h : e' = e) (h2 : sm_li C M V N k e m v) : sm_li C M V N k e' m v := h ▸ h2
theorem sm_lk_i {C M V Lp Ws : Int → Int} {N x y : Int} (h1 : x < y) (h2 : y < N) (h3 : 0 ≤ x) (h4 : C y = C x) (h5 : M y ≤ M x) (h6 : V y ≤ V x) (h7 : Lp y ≤ Lp x) (h8 : Ws y ≤ Ws x) : sm_lk C M V Lp Ws N x y := ⟨h1, h2, h3, h4, h5, h6, h7, h8⟩
theorem sm_nm_i {ns mn x : Int} (h1 : -1 ≤ x) (h2 : x < ns) (h3 : x = -1 → mn = 1) : sm_nm ns mn x := ⟨h1, h2, h3⟩
theorem sm_HD_ns {held many : Int → Int} {nf ns ns' : Int} (h : sm_HD held many nf ns) (hs : ns ≤ ns') : sm_HD held many nf ns' := fun f h0 h1 h2 => by
  obtain ⟨a, b, c, d⟩ := h f h0 h1 h2
  exact ⟨a, b, fun i i0 i1 => ⟨(c i i0 i1).1, Int.lt_of_lt_of_le (c i i0 i1).2 hs⟩, d⟩
def q_expression (p1 : Int) (S : sv_S) : Option Value → sv_S → Prop := fun v S' => ∃ r : Int, v = some (sv_I r) ∧ sv_R r ∧ sm_ok S' ∧ sv_mod [1020, 1021, 1022, 1023, 5, 1011, 3, 4, 1007, 1009, 11, 12, 13, 14, 1024, 15, 16, 1031, 1032, 17, 18, 19, 20, 21, 22, 23, 24, 25, 1042, 1043, 1044, 1045, 1100001, 1100002, 1100005, 1100003, 1100004] S S' ∧ ((S 1020 0) ≤ (S' 1020 0) ∧ (S' 1020 0) < (S' 1012 0) ∧ 0 ≤ (S' 1021 0) ∧ (0 < (S 1021 0) → 0 < (S' 1021 0)) ∧ (S 1007 0) ≤ (S' 1007 0) ∧ (S' 1007 0) ≤ 90 ∧ sm_LN (S' 4) (S' 1007 0) ∧ ((S 1009 0) = 1 → (S' 1009 0) = 1) ∧ sm_WF (S' 11) (S' 12) (S' 13) (S' 1100001) (S' 1100002) (S' 1100005) (S' 1100003) (S' 1100004) (S' 1024 0) (S' 1007 0) (S' 1009 0) (S' 1032 0) ∧ sm_PS (S 11) (S 1100001) (S 1100002) (S 1100005) (S 1100003) (S 1100004) (S' 11) (S' 1100001) (S' 1100002) (S' 1100005) (S' 1100003) (S' 1100004) (S 1024 0) ∧ sm_KL (S 15) (S 16) (S' 15) (S' 16) (S 1031 0) ∧ sm_HD (S' 23) (S' 24) (S' 1032 0) (S' 1007 0) ∧ sm_HD (S' 25) (fun _ : Int => (S' 1042 0)) 1 (S' 1007 0) ∧ (S' 1031 0) = (S 1031 0) ∧ (S' 1043 0) = (S 1043 0) ∧ (S' 1044 0) = (S 1044 0) ∧ (S' 1045 0) = (S 1045 0) ∧ (S 1032 0) ≤ (S' 1032 0) ∧ (S' 1032 0) ≤ 1 + (S' 1020 0) ∧ (S 1024 0) ≤ (S' 1024 0) ∧ ((S' 1021 0) = 0 → (S' 1023 0) = (S 1023 0) ∧ (S' 1024 0) + 1 ≤ (S 1024 0) + 2 * ((S' 1020 0) - (S 1020 0))) ∧ (0 < (S' 1021 0) → (S' 1024 0) ≤ (S 1024 0) + 2 * ((S' 1020 0) - (S 1020 0)) + 2 * (30 * (20 - (S 1023 0)) + 26)) ∧ -1 ≤ r ∧ r < 12000 ∧ ((S' 1021 0) = 0 → (S 1020 0) < (S' 1020 0) ∧ 1 ≤ (S 6 (S 1020 0)) ∧ sm_ex (S' 1100001) (S' 1100002) (S' 1100005) (S' 1024 0) 1 r (17 * (20 - (S 1023 0)) + 17) (20 - (S 1023 0)) ∧ ((S' 11 r) = 2 ∨ (S' 11 r) = 7 → (S' 1100002 r) ≤ 17 * (20 - (S 1023 0)) + 2)))
def T_expression (d : Int) : Prop := ∀ (p1 : Int) (S : sv_S), sm_ok S → (0 ≤ p1 ∧ p1 ≤ 1) → (0 ≤ (S 1020 0) ∧ (S 1020 0) < (S 1012 0) ∧ sm_TK (S 6) (S 8) (S 9) (S 10) (S 1012 0) ∧ 0 ≤ (S 1021 0) ∧ 0 ≤ (S 1004 0) ∧ (S 1004 0) ≤ 4000 ∧ 0 ≤ (S 1007 0) ∧ (S 1007 0) ≤ 90 ∧ sm_LN (S 4) (S 1007 0) ∧ sm_WF (S 11) (S 12) (S 13) (S 1100001) (S 1100002) (S 1100005) (S 1100003) (S 1100004) (S 1024 0) (S 1007 0) (S 1009 0) (S 1032 0) ∧ sm_HD (S 23) (S 24) (S 1032 0) (S 1007 0) ∧ sm_HD (S 25) (fun _ : Int => (S 1042 0)) 1 (S 1007 0) ∧ 0 ≤ (S 1043 0) ∧ (S 1043 0) < (S 1032 0) ∧ (S 1032 0) ≤ 1 + (S 1020 0) ∧ 0 ≤ (S 1031 0) ∧ (S 1031 0) ≤ 100 ∧ 0 ≤ (S 1044 0) ∧ (S 1044 0) ≤ 30 ∧ 0 ≤ (S 1045 0) ∧ (S 1045 0) ≤ 30 ∧ 0 ≤ (S 1024 0) ∧ ((S 1021 0) = 0 → 0 ≤ (S 1023 0) ∧ (S 1023 0) ≤ 20 ∧ (S 1031 0) ≤ 3 * (S 1023 0) + 5 ∧ (S 1024 0) ≤ 2 * (S 1020 0) ∧ (S 1044 0) ≤ (S 1023 0) ∧ (S 1045 0) ≤ (S 1023 0)) ∧ (S 1021 0) = 0) → (30 * (20 - (S 1023 0)) + 26) = d → sv_T sm_XS sm_cs sm_L sm_sh (30 * (20 - (S 1023 0)) + 26).toNat (q_expression p1 S) 43 0 (lv_args 0 [.ref 0, sv_I p1]) [] S
def q_opened (p1 : Int) (S : sv_S) : Option Value → sv_S → Prop := fun v S' => ∃ r : Int, v = some (sv_I r) ∧ sv_R r ∧ sm_ok S' ∧ sv_mod [1020, 1021, 1022, 1023, 5, 1011, 3, 4, 1007, 1009, 11, 12, 13, 14, 1024, 15, 16, 1031, 1032, 17, 18, 19, 20, 21, 22, 23, 24, 25, 1042, 1043, 1044, 1045, 1100001, 1100002, 1100005, 1100003, 1100004] S S' ∧ ((S 1020 0) ≤ (S' 1020 0) ∧ (S' 1020 0) < (S' 1012 0) ∧ 0 ≤ (S' 1021 0) ∧ (0 < (S 1021 0) → 0 < (S' 1021 0)) ∧ (S 1007 0) ≤ (S' 1007 0) ∧ (S' 1007 0) ≤ 90 ∧ sm_LN (S' 4) (S' 1007 0) ∧ ((S 1009 0) = 1 → (S' 1009 0) = 1) ∧ sm_WF (S' 11) (S' 12) (S' 13) (S' 1100001) (S' 1100002) (S' 1100005) (S' 1100003) (S' 1100004) (S' 1024 0) (S' 1007 0) (S' 1009 0) (S' 1032 0) ∧ sm_PS (S 11) (S 1100001) (S 1100002) (S 1100005) (S 1100003) (S 1100004) (S' 11) (S' 1100001) (S' 1100002) (S' 1100005) (S' 1100003) (S' 1100004) (S 1024 0) ∧ sm_KL (S 15) (S 16) (S' 15) (S' 16) (S 1031 0) ∧ sm_HD (S' 23) (S' 24) (S' 1032 0) (S' 1007 0) ∧ sm_HD (S' 25) (fun _ : Int => (S' 1042 0)) 1 (S' 1007 0) ∧ (S' 1031 0) = (S 1031 0) ∧ (S' 1043 0) = (S 1043 0) ∧ (S' 1044 0) = (S 1044 0) ∧ (S' 1045 0) = (S 1045 0) ∧ (S 1032 0) ≤ (S' 1032 0) ∧ (S' 1032 0) ≤ 1 + (S' 1020 0) ∧ (S 1024 0) ≤ (S' 1024 0) ∧ ((S' 1021 0) = 0 → (S' 1023 0) = (S 1023 0) ∧ (S' 1024 0) + 1 ≤ (S 1024 0) + 2 * ((S' 1020 0) - (S 1020 0))) ∧ (0 < (S' 1021 0) → (S' 1024 0) ≤ (S 1024 0) + 2 * ((S' 1020 0) - (S 1020 0)) + 2 * (30 * (20 - (S 1023 0)) + 14)) ∧ -1 ≤ r ∧ r < 12000 ∧ ((S' 1021 0) = 0 → sm_ex (S' 1100001) (S' 1100002) (S' 1100005) (S' 1024 0) 1 r (17 * (20 - (S 1023 0))) (19 - (S 1023 0)) ∧ (S 1020 0) < (S' 1020 0)))
def T_opened (d : Int) : Prop := ∀ (p1 : Int) (S : sv_S), sm_ok S → (0 ≤ p1 ∧ p1 ≤ 1) → (0 ≤ (S 1020 0) ∧ (S 1020 0) < (S 1012 0) ∧ sm_TK (S 6) (S 8) (S 9) (S 10) (S 1012 0) ∧ 0 ≤ (S 1021 0) ∧ 0 ≤ (S 1004 0) ∧ (S 1004 0) ≤ 4000 ∧ 0 ≤ (S 1007 0) ∧ (S 1007 0) ≤ 90 ∧ sm_LN (S 4) (S 1007 0) ∧ sm_WF (S 11) (S 12) (S 13) (S 1100001) (S 1100002) (S 1100005) (S 1100003) (S 1100004) (S 1024 0) (S 1007 0) (S 1009 0) (S 1032 0) ∧ sm_HD (S 23) (S 24) (S 1032 0) (S 1007 0) ∧ sm_HD (S 25) (fun _ : Int => (S 1042 0)) 1 (S 1007 0) ∧ 0 ≤ (S 1043 0) ∧ (S 1043 0) < (S 1032 0) ∧ (S 1032 0) ≤ 1 + (S 1020 0) ∧ 0 ≤ (S 1031 0) ∧ (S 1031 0) ≤ 100 ∧ 0 ≤ (S 1044 0) ∧ (S 1044 0) ≤ 30 ∧ 0 ≤ (S 1045 0) ∧ (S 1045 0) ≤ 30 ∧ 0 ≤ (S 1024 0) ∧ ((S 1021 0) = 0 → 0 ≤ (S 1023 0) ∧ (S 1023 0) ≤ 20 ∧ (S 1031 0) ≤ 3 * (S 1023 0) + 5 ∧ (S 1024 0) ≤ 2 * (S 1020 0) ∧ (S 1044 0) ≤ (S 1023 0) ∧ (S 1045 0) ≤ (S 1023 0)) ∧ (S 1021 0) = 0) → (30 * (20 - (S 1023 0)) + 14) = d → sv_T sm_XS sm_cs sm_L sm_sh (30 * (20 - (S 1023 0)) + 14).toNat (q_opened p1 S) 46 0 (lv_args 0 [.ref 0, sv_I p1]) [] S
def q_assigned (p1 : Int) (S : sv_S) : Option Value → sv_S → Prop := fun v S' => ∃ r : Int, v = some (sv_I r) ∧ sv_R r ∧ sm_ok S' ∧ sv_mod [1020, 1021, 1022, 1023, 5, 1011, 3, 4, 1007, 1009, 11, 12, 13, 14, 1024, 15, 16, 1031, 1032, 17, 18, 19, 20, 21, 22, 23, 24, 25, 1042, 1043, 1044, 1045, 1100001, 1100002, 1100005, 1100003, 1100004] S S' ∧ ((S 1020 0) ≤ (S' 1020 0) ∧ (S' 1020 0) < (S' 1012 0) ∧ 0 ≤ (S' 1021 0) ∧ (0 < (S 1021 0) → 0 < (S' 1021 0)) ∧ (S 1007 0) ≤ (S' 1007 0) ∧ (S' 1007 0) ≤ 90 ∧ sm_LN (S' 4) (S' 1007 0) ∧ ((S 1009 0) = 1 → (S' 1009 0) = 1) ∧ sm_WF (S' 11) (S' 12) (S' 13) (S' 1100001) (S' 1100002) (S' 1100005) (S' 1100003) (S' 1100004) (S' 1024 0) (S' 1007 0) (S' 1009 0) (S' 1032 0) ∧ sm_PS (S 11) (S 1100001) (S 1100002) (S 1100005) (S 1100003) (S 1100004) (S' 11) (S' 1100001) (S' 1100002) (S' 1100005) (S' 1100003) (S' 1100004) (S 1024 0) ∧ sm_KL (S 15) (S 16) (S' 15) (S' 16) (S 1031 0) ∧ sm_HD (S' 23) (S' 24) (S' 1032 0) (S' 1007 0) ∧ sm_HD (S' 25) (fun _ : Int => (S' 1042 0)) 1 (S' 1007 0) ∧ (S' 1031 0) = (S 1031 0) ∧ (S' 1043 0) = (S 1043 0) ∧ (S' 1044 0) = (S 1044 0) ∧ (S' 1045 0) = (S 1045 0) ∧ (S 1032 0) ≤ (S' 1032 0) ∧ (S' 1032 0) ≤ 1 + (S' 1020 0) ∧ (S 1024 0) ≤ (S' 1024 0) ∧ ((S' 1021 0) = 0 → (S' 1023 0) = (S 1023 0) ∧ (S' 1024 0) + 1 ≤ (S 1024 0) + 2 * ((S' 1020 0) - (S 1020 0))) ∧ (0 < (S' 1021 0) → (S' 1024 0) ≤ (S 1024 0) + 2 * ((S' 1020 0) - (S 1020 0)) + 2 * ((if 0 < (S 1021 0) then 12 else 30 * (20 - (S 1023 0)) + 25))) ∧ -1 ≤ r ∧ r < 12000 ∧ ((S' 1021 0) = 0 → (S 1020 0) < (S' 1020 0) ∧ 1 ≤ (S 6 (S 1020 0)) ∧ sm_ex (S' 1100001) (S' 1100002) (S' 1100005) (S' 1024 0) 1 r (17 * (20 - (S 1023 0)) + 17) (20 - (S 1023 0)) ∧ ((S' 11 r) = 2 ∨ (S' 11 r) = 7 → (S' 1100002 r) ≤ 17 * (20 - (S 1023 0)) + 2)) ∧ (0 < (S 1021 0) → (S' 1020 0) = (S 1020 0) ∧ (S' 1024 0) = (S 1024 0)))
def T_assigned (d : Int) : Prop := ∀ (p1 : Int) (S : sv_S), sm_ok S → (0 ≤ p1 ∧ p1 ≤ 1) → (0 ≤ (S 1020 0) ∧ (S 1020 0) < (S 1012 0) ∧ sm_TK (S 6) (S 8) (S 9) (S 10) (S 1012 0) ∧ 0 ≤ (S 1021 0) ∧ 0 ≤ (S 1004 0) ∧ (S 1004 0) ≤ 4000 ∧ 0 ≤ (S 1007 0) ∧ (S 1007 0) ≤ 90 ∧ sm_LN (S 4) (S 1007 0) ∧ sm_WF (S 11) (S 12) (S 13) (S 1100001) (S 1100002) (S 1100005) (S 1100003) (S 1100004) (S 1024 0) (S 1007 0) (S 1009 0) (S 1032 0) ∧ sm_HD (S 23) (S 24) (S 1032 0) (S 1007 0) ∧ sm_HD (S 25) (fun _ : Int => (S 1042 0)) 1 (S 1007 0) ∧ 0 ≤ (S 1043 0) ∧ (S 1043 0) < (S 1032 0) ∧ (S 1032 0) ≤ 1 + (S 1020 0) ∧ 0 ≤ (S 1031 0) ∧ (S 1031 0) ≤ 100 ∧ 0 ≤ (S 1044 0) ∧ (S 1044 0) ≤ 30 ∧ 0 ≤ (S 1045 0) ∧ (S 1045 0) ≤ 30 ∧ 0 ≤ (S 1024 0) ∧ ((S 1021 0) = 0 → 0 ≤ (S 1023 0) ∧ (S 1023 0) ≤ 20 ∧ (S 1031 0) ≤ 3 * (S 1023 0) + 5 ∧ (S 1024 0) ≤ 2 * (S 1020 0) ∧ (S 1044 0) ≤ (S 1023 0) ∧ (S 1045 0) ≤ (S 1023 0))) → ((if 0 < (S 1021 0) then 12 else 30 * (20 - (S 1023 0)) + 25)) = d → sv_T sm_XS sm_cs sm_L sm_sh ((if 0 < (S 1021 0) then 12 else 30 * (20 - (S 1023 0)) + 25)).toNat (q_assigned p1 S) 47 0 (lv_args 0 [.ref 0, sv_I p1]) [] S
def q_conditional (p1 : Int) (S : sv_S) : Option Value → sv_S → Prop := fun v S' => ∃ r : Int, v = some (sv_I r) ∧ sv_R r ∧ sm_ok S' ∧ sv_mod [1020, 1021, 1022, 1023, 5, 1011, 3, 4, 1007, 1009, 11, 12, 13, 14, 1024, 15, 16, 1031, 1032, 17, 18, 19, 20, 21, 22, 23, 24, 25, 1042, 1043, 1044, 1045, 1100001, 1100002, 1100005, 1100003, 1100004] S S' ∧ ((S 1020 0) ≤ (S' 1020 0) ∧ (S' 1020 0) < (S' 1012 0) ∧ 0 ≤ (S' 1021 0) ∧ (0 < (S 1021 0) → 0 < (S' 1021 0)) ∧ (S 1007 0) ≤ (S' 1007 0) ∧ (S' 1007 0) ≤ 90 ∧ sm_LN (S' 4) (S' 1007 0) ∧ ((S 1009 0) = 1 → (S' 1009 0) = 1) ∧ sm_WF (S' 11) (S' 12) (S' 13) (S' 1100001) (S' 1100002) (S' 1100005) (S' 1100003) (S' 1100004) (S' 1024 0) (S' 1007 0) (S' 1009 0) (S' 1032 0) ∧ sm_PS (S 11) (S 1100001) (S 1100002) (S 1100005) (S 1100003) (S 1100004) (S' 11) (S' 1100001) (S' 1100002) (S' 1100005) (S' 1100003) (S' 1100004) (S 1024 0) ∧ sm_KL (S 15) (S 16) (S' 15) (S' 16) (S 1031 0) ∧ sm_HD (S' 23) (S' 24) (S' 1032 0) (S' 1007 0) ∧ sm_HD (S' 25) (fun _ : Int => (S' 1042 0)) 1 (S' 1007 0) ∧ (S' 1031 0) = (S 1031 0) ∧ (S' 1043 0) = (S 1043 0) ∧ (S' 1044 0) = (S 1044 0) ∧ (S' 1045 0) = (S 1045 0) ∧ (S 1032 0) ≤ (S' 1032 0) ∧ (S' 1032 0) ≤ 1 + (S' 1020 0) ∧ (S 1024 0) ≤ (S' 1024 0) ∧ ((S' 1021 0) = 0 → (S' 1023 0) = (S 1023 0) ∧ (S' 1024 0) + 1 ≤ (S 1024 0) + 2 * ((S' 1020 0) - (S 1020 0))) ∧ (0 < (S' 1021 0) → (S' 1024 0) ≤ (S 1024 0) + 2 * ((S' 1020 0) - (S 1020 0)) + 2 * ((if 0 < (S 1021 0) then 11 else 30 * (20 - (S 1023 0)) + 24))) ∧ -1 ≤ r ∧ r < 12000 ∧ ((S' 1021 0) = 0 → (S 1020 0) < (S' 1020 0) ∧ 1 ≤ (S 6 (S 1020 0)) ∧ sm_ex (S' 1100001) (S' 1100002) (S' 1100005) (S' 1024 0) 1 r (17 * (20 - (S 1023 0)) + 17) (20 - (S 1023 0)) ∧ ((S' 11 r) = 2 ∨ (S' 11 r) = 7 → (S' 1100002 r) ≤ 17 * (20 - (S 1023 0)) + 2)) ∧ (0 < (S 1021 0) → (S' 1020 0) = (S 1020 0) ∧ (S' 1024 0) = (S 1024 0)))
def T_conditional (d : Int) : Prop := ∀ (p1 : Int) (S : sv_S), sm_ok S → (0 ≤ p1 ∧ p1 ≤ 1) → (0 ≤ (S 1020 0) ∧ (S 1020 0) < (S 1012 0) ∧ sm_TK (S 6) (S 8) (S 9) (S 10) (S 1012 0) ∧ 0 ≤ (S 1021 0) ∧ 0 ≤ (S 1004 0) ∧ (S 1004 0) ≤ 4000 ∧ 0 ≤ (S 1007 0) ∧ (S 1007 0) ≤ 90 ∧ sm_LN (S 4) (S 1007 0) ∧ sm_WF (S 11) (S 12) (S 13) (S 1100001) (S 1100002) (S 1100005) (S 1100003) (S 1100004) (S 1024 0) (S 1007 0) (S 1009 0) (S 1032 0) ∧ sm_HD (S 23) (S 24) (S 1032 0) (S 1007 0) ∧ sm_HD (S 25) (fun _ : Int => (S 1042 0)) 1 (S 1007 0) ∧ 0 ≤ (S 1043 0) ∧ (S 1043 0) < (S 1032 0) ∧ (S 1032 0) ≤ 1 + (S 1020 0) ∧ 0 ≤ (S 1031 0) ∧ (S 1031 0) ≤ 100 ∧ 0 ≤ (S 1044 0) ∧ (S 1044 0) ≤ 30 ∧ 0 ≤ (S 1045 0) ∧ (S 1045 0) ≤ 30 ∧ 0 ≤ (S 1024 0) ∧ ((S 1021 0) = 0 → 0 ≤ (S 1023 0) ∧ (S 1023 0) ≤ 20 ∧ (S 1031 0) ≤ 3 * (S 1023 0) + 5 ∧ (S 1024 0) ≤ 2 * (S 1020 0) ∧ (S 1044 0) ≤ (S 1023 0) ∧ (S 1045 0) ≤ (S 1023 0))) → ((if 0 < (S 1021 0) then 11 else 30 * (20 - (S 1023 0)) + 24)) = d → sv_T sm_XS sm_cs sm_L sm_sh ((if 0 < (S 1021 0) then 11 else 30 * (20 - (S 1023 0)) + 24)).toNat (q_conditional p1 S) 48 0 (lv_args 0 [.ref 0, sv_I p1]) [] S
def q_binary (p1 : Int) (p2 : Int) (S : sv_S) : Option Value → sv_S → Prop := fun v S' => ∃ r : Int, v = some (sv_I r) ∧ sv_R r ∧ sm_ok S' ∧ sv_mod [1020, 1021, 1022, 1023, 5, 1011, 3, 4, 1007, 1009, 11, 12, 13, 14, 1024, 15, 16, 1031, 1032, 17, 18, 19, 20, 21, 22, 23, 24, 25, 1042, 1043, 1044, 1045, 1100001, 1100002, 1100005, 1100003, 1100004] S S' ∧ ((S 1020 0) ≤ (S' 1020 0) ∧ (S' 1020 0) < (S' 1012 0) ∧ 0 ≤ (S' 1021 0) ∧ (0 < (S 1021 0) → 0 < (S' 1021 0)) ∧ (S 1007 0) ≤ (S' 1007 0) ∧ (S' 1007 0) ≤ 90 ∧ sm_LN (S' 4) (S' 1007 0) ∧ ((S 1009 0) = 1 → (S' 1009 0) = 1) ∧ sm_WF (S' 11) (S' 12) (S' 13) (S' 1100001) (S' 1100002) (S' 1100005) (S' 1100003) (S' 1100004) (S' 1024 0) (S' 1007 0) (S' 1009 0) (S' 1032 0) ∧ sm_PS (S 11) (S 1100001) (S 1100002) (S 1100005) (S 1100003) (S 1100004) (S' 11) (S' 1100001) (S' 1100002) (S' 1100005) (S' 1100003) (S' 1100004) (S 1024 0) ∧ sm_KL (S 15) (S 16) (S' 15) (S' 16) (S 1031 0) ∧ sm_HD (S' 23) (S' 24) (S' 1032 0) (S' 1007 0) ∧ sm_HD (S' 25) (fun _ : Int => (S' 1042 0)) 1 (S' 1007 0) ∧ (S' 1031 0) = (S 1031 0) ∧ (S' 1043 0) = (S 1043 0) ∧ (S' 1044 0) = (S 1044 0) ∧ (S' 1045 0) = (S 1045 0) ∧ (S 1032 0) ≤ (S' 1032 0) ∧ (S' 1032 0) ≤ 1 + (S' 1020 0) ∧ (S 1024 0) ≤ (S' 1024 0) ∧ ((S' 1021 0) = 0 → (S' 1023 0) = (S 1023 0) ∧ (S' 1024 0) + 1 ≤ (S 1024 0) + 2 * ((S' 1020 0) - (S 1020 0))) ∧ (0 < (S' 1021 0) → (S' 1024 0) ≤ (S 1024 0) + 2 * ((S' 1020 0) - (S 1020 0)) + 2 * ((if 0 < (S 1021 0) then 10 else 30 * (20 - (S 1023 0)) + (23 - p1)))) ∧ -1 ≤ r ∧ r < 12000 ∧ ((S' 1021 0) = 0 → (S 1020 0) < (S' 1020 0) ∧ 1 ≤ (S 6 (S 1020 0)) ∧ sm_ex (S' 1100001) (S' 1100002) (S' 1100005) (S' 1024 0) 1 r (17 * (20 - (S 1023 0)) + (15 - p1)) (20 - (S 1023 0)) ∧ ((S' 11 r) = 2 ∨ (S' 11 r) = 7 → (S' 1100002 r) ≤ 17 * (20 - (S 1023 0)) + 2)) ∧ (0 < (S 1021 0) → (S' 1020 0) = (S 1020 0) ∧ (S' 1024 0) = (S 1024 0)))
def T_binary (d : Int) : Prop := ∀ (p1 : Int) (p2 : Int) (S : sv_S), sm_ok S → sv_R p1 → (0 ≤ p2 ∧ p2 ≤ 1) → (0 ≤ (S 1020 0) ∧ (S 1020 0) < (S 1012 0) ∧ sm_TK (S 6) (S 8) (S 9) (S 10) (S 1012 0) ∧ 0 ≤ (S 1021 0) ∧ 0 ≤ (S 1004 0) ∧ (S 1004 0) ≤ 4000 ∧ 0 ≤ (S 1007 0) ∧ (S 1007 0) ≤ 90 ∧ sm_LN (S 4) (S 1007 0) ∧ sm_WF (S 11) (S 12) (S 13) (S 1100001) (S 1100002) (S 1100005) (S 1100003) (S 1100004) (S 1024 0) (S 1007 0) (S 1009 0) (S 1032 0) ∧ sm_HD (S 23) (S 24) (S 1032 0) (S 1007 0) ∧ sm_HD (S 25) (fun _ : Int => (S 1042 0)) 1 (S 1007 0) ∧ 0 ≤ (S 1043 0) ∧ (S 1043 0) < (S 1032 0) ∧ (S 1032 0) ≤ 1 + (S 1020 0) ∧ 0 ≤ (S 1031 0) ∧ (S 1031 0) ≤ 100 ∧ 0 ≤ (S 1044 0) ∧ (S 1044 0) ≤ 30 ∧ 0 ≤ (S 1045 0) ∧ (S 1045 0) ≤ 30 ∧ 0 ≤ (S 1024 0) ∧ ((S 1021 0) = 0 → 0 ≤ (S 1023 0) ∧ (S 1023 0) ≤ 20 ∧ (S 1031 0) ≤ 3 * (S 1023 0) + 5 ∧ (S 1024 0) ≤ 2 * (S 1020 0) ∧ (S 1044 0) ≤ (S 1023 0) ∧ (S 1045 0) ≤ (S 1023 0)) ∧ 0 ≤ p1 ∧ p1 ≤ 10) → ((if 0 < (S 1021 0) then 10 else 30 * (20 - (S 1023 0)) + (23 - p1))) = d → sv_T sm_XS sm_cs sm_L sm_sh ((if 0 < (S 1021 0) then 10 else 30 * (20 - (S 1023 0)) + (23 - p1))).toNat (q_binary p1 p2 S) 51 0 (lv_args 0 [.ref 0, sv_I p1, sv_I p2]) [] S
def q_unit (S : sv_S) : Option Value → sv_S → Prop := fun v S' => ∃ r : Int, v = some (sv_I r) ∧ sv_R r ∧ sm_ok S' ∧ sv_mod [1020, 1021, 1022, 1023, 5, 1011, 3, 4, 1007, 1009, 11, 12, 13, 14, 1024, 15, 16, 1031, 1032, 17, 18, 19, 20, 21, 22, 23, 24, 25, 1042, 1043, 1044, 1045, 1100001, 1100002, 1100005, 1100003, 1100004] S S' ∧ ((S 1020 0) ≤ (S' 1020 0) ∧ (S' 1020 0) < (S' 1012 0) ∧ 0 ≤ (S' 1021 0) ∧ (0 < (S 1021 0) → 0 < (S' 1021 0)) ∧ (S 1007 0) ≤ (S' 1007 0) ∧ (S' 1007 0) ≤ 90 ∧ sm_LN (S' 4) (S' 1007 0) ∧ ((S 1009 0) = 1 → (S' 1009 0) = 1) ∧ sm_WF (S' 11) (S' 12) (S' 13) (S' 1100001) (S' 1100002) (S' 1100005) (S' 1100003) (S' 1100004) (S' 1024 0) (S' 1007 0) (S' 1009 0) (S' 1032 0) ∧ sm_PS (S 11) (S 1100001) (S 1100002) (S 1100005) (S 1100003) (S 1100004) (S' 11) (S' 1100001) (S' 1100002) (S' 1100005) (S' 1100003) (S' 1100004) (S 1024 0) ∧ sm_KL (S 15) (S 16) (S' 15) (S' 16) (S 1031 0) ∧ sm_HD (S' 23) (S' 24) (S' 1032 0) (S' 1007 0) ∧ sm_HD (S' 25) (fun _ : Int => (S' 1042 0)) 1 (S' 1007 0) ∧ (S' 1031 0) = (S 1031 0) ∧ (S' 1043 0) = (S 1043 0) ∧ (S' 1044 0) = (S 1044 0) ∧ (S' 1045 0) = (S 1045 0) ∧ (S 1032 0) ≤ (S' 1032 0) ∧ (S' 1032 0) ≤ 1 + (S' 1020 0) ∧ (S 1024 0) ≤ (S' 1024 0) ∧ ((S' 1021 0) = 0 → (S' 1023 0) = (S 1023 0) ∧ (S' 1024 0) + 1 ≤ (S 1024 0) + 2 * ((S' 1020 0) - (S 1020 0))) ∧ (0 < (S' 1021 0) → (S' 1024 0) ≤ (S 1024 0) + 2 * ((S' 1020 0) - (S 1020 0)) + 2 * ((if 0 < (S 1021 0) then 9 else 30 * (20 - (S 1023 0)) + 12))) ∧ -1 ≤ r ∧ r < 12000 ∧ ((S' 1021 0) = 0 → (S 1020 0) < (S' 1020 0) ∧ 1 ≤ (S 6 (S 1020 0)) ∧ sm_ex (S' 1100001) (S' 1100002) (S' 1100005) (S' 1024 0) 1 r (17 * (20 - (S 1023 0)) + 5) (20 - (S 1023 0)) ∧ ((S' 11 r) = 2 ∨ (S' 11 r) = 7 → (S' 1100002 r) ≤ 17 * (20 - (S 1023 0)) + 2)) ∧ (0 < (S 1021 0) → (S' 1020 0) = (S 1020 0) ∧ (S' 1024 0) = (S 1024 0)))
def T_unit (d : Int) : Prop := ∀ (S : sv_S), sm_ok S → (0 ≤ (S 1020 0) ∧ (S 1020 0) < (S 1012 0) ∧ sm_TK (S 6) (S 8) (S 9) (S 10) (S 1012 0) ∧ 0 ≤ (S 1021 0) ∧ 0 ≤ (S 1004 0) ∧ (S 1004 0) ≤ 4000 ∧ 0 ≤ (S 1007 0) ∧ (S 1007 0) ≤ 90 ∧ sm_LN (S 4) (S 1007 0) ∧ sm_WF (S 11) (S 12) (S 13) (S 1100001) (S 1100002) (S 1100005) (S 1100003) (S 1100004) (S 1024 0) (S 1007 0) (S 1009 0) (S 1032 0) ∧ sm_HD (S 23) (S 24) (S 1032 0) (S 1007 0) ∧ sm_HD (S 25) (fun _ : Int => (S 1042 0)) 1 (S 1007 0) ∧ 0 ≤ (S 1043 0) ∧ (S 1043 0) < (S 1032 0) ∧ (S 1032 0) ≤ 1 + (S 1020 0) ∧ 0 ≤ (S 1031 0) ∧ (S 1031 0) ≤ 100 ∧ 0 ≤ (S 1044 0) ∧ (S 1044 0) ≤ 30 ∧ 0 ≤ (S 1045 0) ∧ (S 1045 0) ≤ 30 ∧ 0 ≤ (S 1024 0) ∧ ((S 1021 0) = 0 → 0 ≤ (S 1023 0) ∧ (S 1023 0) ≤ 20 ∧ (S 1031 0) ≤ 3 * (S 1023 0) + 5 ∧ (S 1024 0) ≤ 2 * (S 1020 0) ∧ (S 1044 0) ≤ (S 1023 0) ∧ (S 1045 0) ≤ (S 1023 0))) → ((if 0 < (S 1021 0) then 9 else 30 * (20 - (S 1023 0)) + 12)) = d → sv_T sm_XS sm_cs sm_L sm_sh ((if 0 < (S 1021 0) then 9 else 30 * (20 - (S 1023 0)) + 12)).toNat (q_unit S) 52 0 (lv_args 0 [.ref 0]) [] S
def q_postfix (S : sv_S) : Option Value → sv_S → Prop := fun v S' => ∃ r : Int, v = some (sv_I r) ∧ sv_R r ∧ sm_ok S' ∧ sv_mod [1020, 1021, 1022, 1023, 5, 1011, 3, 4, 1007, 1009, 11, 12, 13, 14, 1024, 15, 16, 1031, 1032, 17, 18, 19, 20, 21, 22, 23, 24, 25, 1042, 1043, 1044, 1045, 1100001, 1100002, 1100005, 1100003, 1100004] S S' ∧ ((S 1020 0) ≤ (S' 1020 0) ∧ (S' 1020 0) < (S' 1012 0) ∧ 0 ≤ (S' 1021 0) ∧ (0 < (S 1021 0) → 0 < (S' 1021 0)) ∧ (S 1007 0) ≤ (S' 1007 0) ∧ (S' 1007 0) ≤ 90 ∧ sm_LN (S' 4) (S' 1007 0) ∧ ((S 1009 0) = 1 → (S' 1009 0) = 1) ∧ sm_WF (S' 11) (S' 12) (S' 13) (S' 1100001) (S' 1100002) (S' 1100005) (S' 1100003) (S' 1100004) (S' 1024 0) (S' 1007 0) (S' 1009 0) (S' 1032 0) ∧ sm_PS (S 11) (S 1100001) (S 1100002) (S 1100005) (S 1100003) (S 1100004) (S' 11) (S' 1100001) (S' 1100002) (S' 1100005) (S' 1100003) (S' 1100004) (S 1024 0) ∧ sm_KL (S 15) (S 16) (S' 15) (S' 16) (S 1031 0) ∧ sm_HD (S' 23) (S' 24) (S' 1032 0) (S' 1007 0) ∧ sm_HD (S' 25) (fun _ : Int => (S' 1042 0)) 1 (S' 1007 0) ∧ (S' 1031 0) = (S 1031 0) ∧ (S' 1043 0) = (S 1043 0) ∧ (S' 1044 0) = (S 1044 0) ∧ (S' 1045 0) = (S 1045 0) ∧ (S 1032 0) ≤ (S' 1032 0) ∧ (S' 1032 0) ≤ 1 + (S' 1020 0) ∧ (S 1024 0) ≤ (S' 1024 0) ∧ ((S' 1021 0) = 0 → (S' 1023 0) = (S 1023 0) ∧ (S' 1024 0) + 1 ≤ (S 1024 0) + 2 * ((S' 1020 0) - (S 1020 0))) ∧ (0 < (S' 1021 0) → (S' 1024 0) ≤ (S 1024 0) + 2 * ((S' 1020 0) - (S 1020 0)) + 2 * (30 * (20 - (S 1023 0)) + 11)) ∧ -1 ≤ r ∧ r < 12000 ∧ ((S' 1021 0) = 0 → (S 1020 0) < (S' 1020 0) ∧ 1 ≤ (S 6 (S 1020 0)) ∧ sm_ex (S' 1100001) (S' 1100002) (S' 1100005) (S' 1024 0) 1 r (17 * (20 - (S 1023 0)) + 5) (20 - (S 1023 0)) ∧ ((S' 11 r) = 2 ∨ (S' 11 r) = 7 → (S' 1100002 r) ≤ 17 * (20 - (S 1023 0)) + 2)))
def T_postfix (d : Int) : Prop := ∀ (S : sv_S), sm_ok S → (0 ≤ (S 1020 0) ∧ (S 1020 0) < (S 1012 0) ∧ sm_TK (S 6) (S 8) (S 9) (S 10) (S 1012 0) ∧ 0 ≤ (S 1021 0) ∧ 0 ≤ (S 1004 0) ∧ (S 1004 0) ≤ 4000 ∧ 0 ≤ (S 1007 0) ∧ (S 1007 0) ≤ 90 ∧ sm_LN (S 4) (S 1007 0) ∧ sm_WF (S 11) (S 12) (S 13) (S 1100001) (S 1100002) (S 1100005) (S 1100003) (S 1100004) (S 1024 0) (S 1007 0) (S 1009 0) (S 1032 0) ∧ sm_HD (S 23) (S 24) (S 1032 0) (S 1007 0) ∧ sm_HD (S 25) (fun _ : Int => (S 1042 0)) 1 (S 1007 0) ∧ 0 ≤ (S 1043 0) ∧ (S 1043 0) < (S 1032 0) ∧ (S 1032 0) ≤ 1 + (S 1020 0) ∧ 0 ≤ (S 1031 0) ∧ (S 1031 0) ≤ 100 ∧ 0 ≤ (S 1044 0) ∧ (S 1044 0) ≤ 30 ∧ 0 ≤ (S 1045 0) ∧ (S 1045 0) ≤ 30 ∧ 0 ≤ (S 1024 0) ∧ ((S 1021 0) = 0 → 0 ≤ (S 1023 0) ∧ (S 1023 0) ≤ 20 ∧ (S 1031 0) ≤ 3 * (S 1023 0) + 5 ∧ (S 1024 0) ≤ 2 * (S 1020 0) ∧ (S 1044 0) ≤ (S 1023 0) ∧ (S 1045 0) ≤ (S 1023 0)) ∧ (S 1021 0) = 0) → (30 * (20 - (S 1023 0)) + 11) = d → sv_T sm_XS sm_cs sm_L sm_sh (30 * (20 - (S 1023 0)) + 11).toNat (q_postfix S) 53 0 (lv_args 0 [.ref 0]) [] S
def q_left (S : sv_S) : Option Value → sv_S → Prop := fun v S' => ∃ r : Int, v = some (sv_I r) ∧ sv_R r ∧ sm_ok S' ∧ sv_mod [1020, 1021, 1022, 1023, 5, 1011, 3, 4, 1007, 1009, 11, 12, 13, 14, 1024, 15, 16, 1031, 1032, 17, 18, 19, 20, 21, 22, 23, 24, 25, 1042, 1043, 1044, 1045, 1100001, 1100002, 1100005, 1100003, 1100004] S S' ∧ ((S 1020 0) ≤ (S' 1020 0) ∧ (S' 1020 0) < (S' 1012 0) ∧ 0 ≤ (S' 1021 0) ∧ (0 < (S 1021 0) → 0 < (S' 1021 0)) ∧ (S 1007 0) ≤ (S' 1007 0) ∧ (S' 1007 0) ≤ 90 ∧ sm_LN (S' 4) (S' 1007 0) ∧ ((S 1009 0) = 1 → (S' 1009 0) = 1) ∧ sm_WF (S' 11) (S' 12) (S' 13) (S' 1100001) (S' 1100002) (S' 1100005) (S' 1100003) (S' 1100004) (S' 1024 0) (S' 1007 0) (S' 1009 0) (S' 1032 0) ∧ sm_PS (S 11) (S 1100001) (S 1100002) (S 1100005) (S 1100003) (S 1100004) (S' 11) (S' 1100001) (S' 1100002) (S' 1100005) (S' 1100003) (S' 1100004) (S 1024 0) ∧ sm_KL (S 15) (S 16) (S' 15) (S' 16) (S 1031 0) ∧ sm_HD (S' 23) (S' 24) (S' 1032 0) (S' 1007 0) ∧ sm_HD (S' 25) (fun _ : Int => (S' 1042 0)) 1 (S' 1007 0) ∧ (S' 1031 0) = (S 1031 0) ∧ (S' 1043 0) = (S 1043 0) ∧ (S' 1044 0) = (S 1044 0) ∧ (S' 1045 0) = (S 1045 0) ∧ (S 1032 0) ≤ (S' 1032 0) ∧ (S' 1032 0) ≤ 1 + (S' 1020 0) ∧ (S 1024 0) ≤ (S' 1024 0) ∧ ((S' 1021 0) = 0 → (S' 1023 0) = (S 1023 0) ∧ (S' 1024 0) + 1 ≤ (S 1024 0) + 2 * ((S' 1020 0) - (S 1020 0))) ∧ (0 < (S' 1021 0) → (S' 1024 0) ≤ (S 1024 0) + 2 * ((S' 1020 0) - (S 1020 0)) + 2 * (30 * (20 - (S 1023 0)) + 10)) ∧ -1 ≤ r ∧ r < 12000 ∧ ((S' 1021 0) = 0 → (S 1020 0) < (S' 1020 0) ∧ 1 ≤ (S 6 (S 1020 0)) ∧ sm_ex (S' 1100001) (S' 1100002) (S' 1100005) (S' 1024 0) 1 r (17 * (20 - (S 1023 0)) + 2) (20 - (S 1023 0)) ∧ ((S' 11 r) = 2 ∨ (S' 11 r) = 7 → (S' 1100002 r) ≤ 17 * (20 - (S 1023 0)) + 2)))
def T_left (d : Int) : Prop := ∀ (S : sv_S), sm_ok S → (0 ≤ (S 1020 0) ∧ (S 1020 0) < (S 1012 0) ∧ sm_TK (S 6) (S 8) (S 9) (S 10) (S 1012 0) ∧ 0 ≤ (S 1021 0) ∧ 0 ≤ (S 1004 0) ∧ (S 1004 0) ≤ 4000 ∧ 0 ≤ (S 1007 0) ∧ (S 1007 0) ≤ 90 ∧ sm_LN (S 4) (S 1007 0) ∧ sm_WF (S 11) (S 12) (S 13) (S 1100001) (S 1100002) (S 1100005) (S 1100003) (S 1100004) (S 1024 0) (S 1007 0) (S 1009 0) (S 1032 0) ∧ sm_HD (S 23) (S 24) (S 1032 0) (S 1007 0) ∧ sm_HD (S 25) (fun _ : Int => (S 1042 0)) 1 (S 1007 0) ∧ 0 ≤ (S 1043 0) ∧ (S 1043 0) < (S 1032 0) ∧ (S 1032 0) ≤ 1 + (S 1020 0) ∧ 0 ≤ (S 1031 0) ∧ (S 1031 0) ≤ 100 ∧ 0 ≤ (S 1044 0) ∧ (S 1044 0) ≤ 30 ∧ 0 ≤ (S 1045 0) ∧ (S 1045 0) ≤ 30 ∧ 0 ≤ (S 1024 0) ∧ ((S 1021 0) = 0 → 0 ≤ (S 1023 0) ∧ (S 1023 0) ≤ 20 ∧ (S 1031 0) ≤ 3 * (S 1023 0) + 5 ∧ (S 1024 0) ≤ 2 * (S 1020 0) ∧ (S 1044 0) ≤ (S 1023 0) ∧ (S 1045 0) ≤ (S 1023 0)) ∧ (S 1021 0) = 0) → (30 * (20 - (S 1023 0)) + 10) = d → sv_T sm_XS sm_cs sm_L sm_sh (30 * (20 - (S 1023 0)) + 10).toNat (q_left S) 54 0 (lv_args 0 [.ref 0]) [] S
def q_fresh (S : sv_S) : Option Value → sv_S → Prop := fun v S' => ∃ r : Int, v = some (sv_I r) ∧ sv_R r ∧ sm_ok S' ∧ sv_mod [1020, 1021, 1022, 1023, 5, 1011, 3, 4, 1007, 1009, 11, 12, 13, 14, 1024, 15, 16, 1031, 1032, 17, 18, 19, 20, 21, 22, 23, 24, 25, 1042, 1043, 1044, 1045, 1100001, 1100002, 1100005, 1100003, 1100004] S S' ∧ ((S 1020 0) ≤ (S' 1020 0) ∧ (S' 1020 0) < (S' 1012 0) ∧ 0 ≤ (S' 1021 0) ∧ (0 < (S 1021 0) → 0 < (S' 1021 0)) ∧ (S 1007 0) ≤ (S' 1007 0) ∧ (S' 1007 0) ≤ 90 ∧ sm_LN (S' 4) (S' 1007 0) ∧ ((S 1009 0) = 1 → (S' 1009 0) = 1) ∧ sm_WF (S' 11) (S' 12) (S' 13) (S' 1100001) (S' 1100002) (S' 1100005) (S' 1100003) (S' 1100004) (S' 1024 0) (S' 1007 0) (S' 1009 0) (S' 1032 0) ∧ sm_PS (S 11) (S 1100001) (S 1100002) (S 1100005) (S 1100003) (S 1100004) (S' 11) (S' 1100001) (S' 1100002) (S' 1100005) (S' 1100003) (S' 1100004) (S 1024 0) ∧ sm_KL (S 15) (S 16) (S' 15) (S' 16) (S 1031 0) ∧ sm_HD (S' 23) (S' 24) (S' 1032 0) (S' 1007 0) ∧ sm_HD (S' 25) (fun _ : Int => (S' 1042 0)) 1 (S' 1007 0) ∧ (S' 1031 0) = (S 1031 0) ∧ (S' 1043 0) = (S 1043 0) ∧ (S' 1044 0) = (S 1044 0) ∧ (S' 1045 0) = (S 1045 0) ∧ (S 1032 0) ≤ (S' 1032 0) ∧ (S' 1032 0) ≤ 1 + (S' 1020 0) ∧ (S 1024 0) ≤ (S' 1024 0) ∧ ((S' 1021 0) = 0 → (S' 1023 0) = (S 1023 0) ∧ (S' 1024 0) + 1 ≤ (S 1024 0) + 2 * ((S' 1020 0) - (S 1020 0))) ∧ (0 < (S' 1021 0) → (S' 1024 0) ≤ (S 1024 0) + 2 * ((S' 1020 0) - (S 1020 0)) + 2 * (30 * (20 - (S 1023 0)) + 9)) ∧ -1 ≤ r ∧ r < 12000 ∧ ((S' 1021 0) = 0 → (S 1020 0) < (S' 1020 0) ∧ 1 ≤ (S 6 (S 1020 0)) ∧ sm_ex (S' 1100001) (S' 1100002) (S' 1100005) (S' 1024 0) 1 r (17 * (20 - (S 1023 0)) + 2) (20 - (S 1023 0)) ∧ ((S' 11 r) = 2 ∨ (S' 11 r) = 7 → (S' 1100002 r) ≤ 17 * (20 - (S 1023 0)) + 2)))
def T_fresh (d : Int) : Prop := ∀ (S : sv_S), sm_ok S → (0 ≤ (S 1020 0) ∧ (S 1020 0) < (S 1012 0) ∧ sm_TK (S 6) (S 8) (S 9) (S 10) (S 1012 0) ∧ 0 ≤ (S 1021 0) ∧ 0 ≤ (S 1004 0) ∧ (S 1004 0) ≤ 4000 ∧ 0 ≤ (S 1007 0) ∧ (S 1007 0) ≤ 90 ∧ sm_LN (S 4) (S 1007 0) ∧ sm_WF (S 11) (S 12) (S 13) (S 1100001) (S 1100002) (S 1100005) (S 1100003) (S 1100004) (S 1024 0) (S 1007 0) (S 1009 0) (S 1032 0) ∧ sm_HD (S 23) (S 24) (S 1032 0) (S 1007 0) ∧ sm_HD (S 25) (fun _ : Int => (S 1042 0)) 1 (S 1007 0) ∧ 0 ≤ (S 1043 0) ∧ (S 1043 0) < (S 1032 0) ∧ (S 1032 0) ≤ 1 + (S 1020 0) ∧ 0 ≤ (S 1031 0) ∧ (S 1031 0) ≤ 100 ∧ 0 ≤ (S 1044 0) ∧ (S 1044 0) ≤ 30 ∧ 0 ≤ (S 1045 0) ∧ (S 1045 0) ≤ 30 ∧ 0 ≤ (S 1024 0) ∧ ((S 1021 0) = 0 → 0 ≤ (S 1023 0) ∧ (S 1023 0) ≤ 20 ∧ (S 1031 0) ≤ 3 * (S 1023 0) + 5 ∧ (S 1024 0) ≤ 2 * (S 1020 0) ∧ (S 1044 0) ≤ (S 1023 0) ∧ (S 1045 0) ≤ (S 1023 0)) ∧ (S 1021 0) = 0 ∧ (S 6 (S 1020 0)) = 2) → (30 * (20 - (S 1023 0)) + 9) = d → sv_T sm_XS sm_cs sm_L sm_sh (30 * (20 - (S 1023 0)) + 9).toNat (q_fresh S) 55 0 (lv_args 0 [.ref 0]) [] S
def q_member (p1 : Int) (S : sv_S) : Option Value → sv_S → Prop := fun v S' => ∃ r : Int, v = some (sv_I r) ∧ sv_R r ∧ sm_ok S' ∧ sv_mod [1020, 1021, 1022, 1023, 5, 1011, 3, 4, 1007, 1009, 11, 12, 13, 14, 1024, 15, 16, 1031, 1032, 17, 18, 19, 20, 21, 22, 23, 24, 25, 1042, 1043, 1044, 1045, 1100001, 1100002, 1100005, 1100003, 1100004] S S' ∧ ((S 1020 0) ≤ (S' 1020 0) ∧ (S' 1020 0) < (S' 1012 0) ∧ 0 ≤ (S' 1021 0) ∧ (0 < (S 1021 0) → 0 < (S' 1021 0)) ∧ (S 1007 0) ≤ (S' 1007 0) ∧ (S' 1007 0) ≤ 90 ∧ sm_LN (S' 4) (S' 1007 0) ∧ ((S 1009 0) = 1 → (S' 1009 0) = 1) ∧ sm_WF (S' 11) (S' 12) (S' 13) (S' 1100001) (S' 1100002) (S' 1100005) (S' 1100003) (S' 1100004) (S' 1024 0) (S' 1007 0) (S' 1009 0) (S' 1032 0) ∧ sm_PS (S 11) (S 1100001) (S 1100002) (S 1100005) (S 1100003) (S 1100004) (S' 11) (S' 1100001) (S' 1100002) (S' 1100005) (S' 1100003) (S' 1100004) (S 1024 0) ∧ sm_KL (S 15) (S 16) (S' 15) (S' 16) (S 1031 0) ∧ sm_HD (S' 23) (S' 24) (S' 1032 0) (S' 1007 0) ∧ sm_HD (S' 25) (fun _ : Int => (S' 1042 0)) 1 (S' 1007 0) ∧ (S' 1031 0) = (S 1031 0) ∧ (S' 1043 0) = (S 1043 0) ∧ (S' 1044 0) = (S 1044 0) ∧ (S' 1045 0) = (S 1045 0) ∧ (S 1032 0) ≤ (S' 1032 0) ∧ (S' 1032 0) ≤ 1 + (S' 1020 0) ∧ (S 1024 0) ≤ (S' 1024 0) ∧ ((S' 1021 0) = 0 → (S' 1023 0) = (S 1023 0) ∧ (S' 1024 0) + 1 ≤ (S 1024 0) + 2 * ((S' 1020 0) - (S 1020 0))) ∧ (0 < (S' 1021 0) → (S' 1024 0) ≤ (S 1024 0) + 2 * ((S' 1020 0) - (S 1020 0)) + 2 * (30 * (20 - (S 1023 0)) + 9)) ∧ -1 ≤ r ∧ r < 12000 ∧ ((S' 1021 0) = 0 → (S 1020 0) < (S' 1020 0) ∧ sm_ex (S' 1100001) (S' 1100002) (S' 1100005) (S' 1024 0) 1 r (17 * (20 - (S 1023 0)) + 2) (20 - (S 1023 0))))
def T_member (d : Int) : Prop := ∀ (p1 : Int) (S : sv_S), sm_ok S → sv_R p1 → (0 ≤ (S 1020 0) ∧ (S 1020 0) < (S 1012 0) ∧ sm_TK (S 6) (S 8) (S 9) (S 10) (S 1012 0) ∧ 0 ≤ (S 1021 0) ∧ 0 ≤ (S 1004 0) ∧ (S 1004 0) ≤ 4000 ∧ 0 ≤ (S 1007 0) ∧ (S 1007 0) ≤ 90 ∧ sm_LN (S 4) (S 1007 0) ∧ sm_WF (S 11) (S 12) (S 13) (S 1100001) (S 1100002) (S 1100005) (S 1100003) (S 1100004) (S 1024 0) (S 1007 0) (S 1009 0) (S 1032 0) ∧ sm_HD (S 23) (S 24) (S 1032 0) (S 1007 0) ∧ sm_HD (S 25) (fun _ : Int => (S 1042 0)) 1 (S 1007 0) ∧ 0 ≤ (S 1043 0) ∧ (S 1043 0) < (S 1032 0) ∧ (S 1032 0) ≤ 1 + (S 1020 0) ∧ 0 ≤ (S 1031 0) ∧ (S 1031 0) ≤ 100 ∧ 0 ≤ (S 1044 0) ∧ (S 1044 0) ≤ 30 ∧ 0 ≤ (S 1045 0) ∧ (S 1045 0) ≤ 30 ∧ 0 ≤ (S 1024 0) ∧ ((S 1021 0) = 0 → 0 ≤ (S 1023 0) ∧ (S 1023 0) ≤ 20 ∧ (S 1031 0) ≤ 3 * (S 1023 0) + 5 ∧ (S 1024 0) ≤ 2 * (S 1020 0) ∧ (S 1044 0) ≤ (S 1023 0) ∧ (S 1045 0) ≤ (S 1023 0)) ∧ (S 1021 0) = 0 ∧ ((S 6 (S 1020 0)) = 5) ∧ sm_ex (S 1100001) (S 1100002) (S 1100005) (S 1024 0) 1 p1 (17 * (20 - (S 1023 0)) + 2) (20 - (S 1023 0))) → (30 * (20 - (S 1023 0)) + 9) = d → sv_T sm_XS sm_cs sm_L sm_sh (30 * (20 - (S 1023 0)) + 9).toNat (q_member p1 S) 56 0 (lv_args 0 [.ref 0, sv_I p1]) [] S
def q_arguments (S : sv_S) : Option Value → sv_S → Prop := fun v S' => ∃ r : Int, v = some (sv_I r) ∧ sv_R r ∧ sm_ok S' ∧ sv_mod [1020, 1021, 1022, 1023, 5, 1011, 3, 4, 1007, 1009, 11, 12, 13, 14, 1024, 15, 16, 1031, 1032, 17, 18, 19, 20, 21, 22, 23, 24, 25, 1042, 1043, 1044, 1045, 1100001, 1100002, 1100005, 1100003, 1100004] S S' ∧ ((S 1020 0) ≤ (S' 1020 0) ∧ (S' 1020 0) < (S' 1012 0) ∧ 0 ≤ (S' 1021 0) ∧ (0 < (S 1021 0) → 0 < (S' 1021 0)) ∧ (S 1007 0) ≤ (S' 1007 0) ∧ (S' 1007 0) ≤ 90 ∧ sm_LN (S' 4) (S' 1007 0) ∧ ((S 1009 0) = 1 → (S' 1009 0) = 1) ∧ sm_WF (S' 11) (S' 12) (S' 13) (S' 1100001) (S' 1100002) (S' 1100005) (S' 1100003) (S' 1100004) (S' 1024 0) (S' 1007 0) (S' 1009 0) (S' 1032 0) ∧ sm_PS (S 11) (S 1100001) (S 1100002) (S 1100005) (S 1100003) (S 1100004) (S' 11) (S' 1100001) (S' 1100002) (S' 1100005) (S' 1100003) (S' 1100004) (S 1024 0) ∧ sm_KL (S 15) (S 16) (S' 15) (S' 16) (S 1031 0) ∧ sm_HD (S' 23) (S' 24) (S' 1032 0) (S' 1007 0) ∧ sm_HD (S' 25) (fun _ : Int => (S' 1042 0)) 1 (S' 1007 0) ∧ (S' 1031 0) = (S 1031 0) ∧ (S' 1043 0) = (S 1043 0) ∧ (S' 1044 0) = (S 1044 0) ∧ (S' 1045 0) = (S 1045 0) ∧ (S 1032 0) ≤ (S' 1032 0) ∧ (S' 1032 0) ≤ 1 + (S' 1020 0) ∧ (S 1024 0) ≤ (S' 1024 0) ∧ ((S' 1021 0) = 0 → (S' 1023 0) = (S 1023 0) ∧ (S' 1024 0) + 2 ≤ (S 1024 0) + 2 * ((S' 1020 0) - (S 1020 0))) ∧ (0 < (S' 1021 0) → (S' 1024 0) ≤ (S 1024 0) + 2 * ((S' 1020 0) - (S 1020 0)) + 2 * (30 * (20 - (S 1023 0)) + 9)) ∧ -1 ≤ r ∧ r < 12000 ∧ ((S' 1021 0) = 0 → sm_li (S' 1100001) (S' 1100002) (S' 1100005) (S' 1024 0) 3 r (17 * (20 - (S 1023 0))) (19 - (S 1023 0)) ∧ (S 1020 0) < (S' 1020 0)))
def T_arguments (d : Int) : Prop := ∀ (S : sv_S), sm_ok S → (0 ≤ (S 1020 0) ∧ (S 1020 0) < (S 1012 0) ∧ sm_TK (S 6) (S 8) (S 9) (S 10) (S 1012 0) ∧ 0 ≤ (S 1021 0) ∧ 0 ≤ (S 1004 0) ∧ (S 1004 0) ≤ 4000 ∧ 0 ≤ (S 1007 0) ∧ (S 1007 0) ≤ 90 ∧ sm_LN (S 4) (S 1007 0) ∧ sm_WF (S 11) (S 12) (S 13) (S 1100001) (S 1100002) (S 1100005) (S 1100003) (S 1100004) (S 1024 0) (S 1007 0) (S 1009 0) (S 1032 0) ∧ sm_HD (S 23) (S 24) (S 1032 0) (S 1007 0) ∧ sm_HD (S 25) (fun _ : Int => (S 1042 0)) 1 (S 1007 0) ∧ 0 ≤ (S 1043 0) ∧ (S 1043 0) < (S 1032 0) ∧ (S 1032 0) ≤ 1 + (S 1020 0) ∧ 0 ≤ (S 1031 0) ∧ (S 1031 0) ≤ 100 ∧ 0 ≤ (S 1044 0) ∧ (S 1044 0) ≤ 30 ∧ 0 ≤ (S 1045 0) ∧ (S 1045 0) ≤ 30 ∧ 0 ≤ (S 1024 0) ∧ ((S 1021 0) = 0 → 0 ≤ (S 1023 0) ∧ (S 1023 0) ≤ 20 ∧ (S 1031 0) ≤ 3 * (S 1023 0) + 5 ∧ (S 1024 0) ≤ 2 * (S 1020 0) ∧ (S 1044 0) ≤ (S 1023 0) ∧ (S 1045 0) ≤ (S 1023 0)) ∧ (S 1021 0) = 0 ∧ (S 6 (S 1020 0)) = 5) → (30 * (20 - (S 1023 0)) + 9) = d → sv_T sm_XS sm_cs sm_L sm_sh (30 * (20 - (S 1023 0)) + 9).toNat (q_arguments S) 57 0 (lv_args 0 [.ref 0]) [] S
def q_items (p1 : Int) (p2 : Int) (p3 : Int) (S : sv_S) : Option Value → sv_S → Prop := fun v S' => ∃ r : Int, v = some (sv_I r) ∧ sv_R r ∧ sm_ok S' ∧ sv_mod [1020, 1021, 1022, 1023, 5, 1011, 3, 4, 1007, 1009, 11, 12, 13, 14, 1024, 15, 16, 1031, 1032, 17, 18, 19, 20, 21, 22, 23, 24, 25, 1042, 1043, 1044, 1045, 1100001, 1100002, 1100005, 1100003, 1100004] S S' ∧ ((S 1020 0) ≤ (S' 1020 0) ∧ (S' 1020 0) < (S' 1012 0) ∧ 0 ≤ (S' 1021 0) ∧ (0 < (S 1021 0) → 0 < (S' 1021 0)) ∧ (S 1007 0) ≤ (S' 1007 0) ∧ (S' 1007 0) ≤ 90 ∧ sm_LN (S' 4) (S' 1007 0) ∧ ((S 1009 0) = 1 → (S' 1009 0) = 1) ∧ sm_WF (S' 11) (S' 12) (S' 13) (S' 1100001) (S' 1100002) (S' 1100005) (S' 1100003) (S' 1100004) (S' 1024 0) (S' 1007 0) (S' 1009 0) (S' 1032 0) ∧ sm_PS (S 11) (S 1100001) (S 1100002) (S 1100005) (S 1100003) (S 1100004) (S' 11) (S' 1100001) (S' 1100002) (S' 1100005) (S' 1100003) (S' 1100004) (S 1024 0) ∧ sm_KL (S 15) (S 16) (S' 15) (S' 16) (S 1031 0) ∧ sm_HD (S' 23) (S' 24) (S' 1032 0) (S' 1007 0) ∧ sm_HD (S' 25) (fun _ : Int => (S' 1042 0)) 1 (S' 1007 0) ∧ (S' 1031 0) = (S 1031 0) ∧ (S' 1043 0) = (S 1043 0) ∧ (S' 1044 0) = (S 1044 0) ∧ (S' 1045 0) = (S 1045 0) ∧ (S 1032 0) ≤ (S' 1032 0) ∧ (S' 1032 0) ≤ 1 + (S' 1020 0) ∧ (S 1024 0) ≤ (S' 1024 0) ∧ ((S' 1021 0) = 0 → (S' 1023 0) = (S 1023 0) ∧ (S' 1024 0) + 2 ≤ (S 1024 0) + 2 * ((S' 1020 0) - (S 1020 0))) ∧ (0 < (S' 1021 0) → (S' 1024 0) ≤ (S 1024 0) + 2 * ((S' 1020 0) - (S 1020 0)) + 2 * (30 * (20 - (S 1023 0)) + 8)) ∧ -1 ≤ r ∧ r < 12000 ∧ ((S' 1021 0) = 0 → sm_li (S' 1100001) (S' 1100002) (S' 1100005) (S' 1024 0) 3 r (17 * (20 - (S 1023 0))) (19 - (S 1023 0)) ∧ (S 1020 0) < (S' 1020 0)))
def T_items (d : Int) : Prop := ∀ (p1 : Int) (p2 : Int) (p3 : Int) (S : sv_S), sm_ok S → sv_R p1 → sv_R p2 → sv_R p3 → (0 ≤ (S 1020 0) ∧ (S 1020 0) < (S 1012 0) ∧ sm_TK (S 6) (S 8) (S 9) (S 10) (S 1012 0) ∧ 0 ≤ (S 1021 0) ∧ 0 ≤ (S 1004 0) ∧ (S 1004 0) ≤ 4000 ∧ 0 ≤ (S 1007 0) ∧ (S 1007 0) ≤ 90 ∧ sm_LN (S 4) (S 1007 0) ∧ sm_WF (S 11) (S 12) (S 13) (S 1100001) (S 1100002) (S 1100005) (S 1100003) (S 1100004) (S 1024 0) (S 1007 0) (S 1009 0) (S 1032 0) ∧ sm_HD (S 23) (S 24) (S 1032 0) (S 1007 0) ∧ sm_HD (S 25) (fun _ : Int => (S 1042 0)) 1 (S 1007 0) ∧ 0 ≤ (S 1043 0) ∧ (S 1043 0) < (S 1032 0) ∧ (S 1032 0) ≤ 1 + (S 1020 0) ∧ 0 ≤ (S 1031 0) ∧ (S 1031 0) ≤ 100 ∧ 0 ≤ (S 1044 0) ∧ (S 1044 0) ≤ 30 ∧ 0 ≤ (S 1045 0) ∧ (S 1045 0) ≤ 30 ∧ 0 ≤ (S 1024 0) ∧ ((S 1021 0) = 0 → 0 ≤ (S 1023 0) ∧ (S 1023 0) ≤ 20 ∧ (S 1031 0) ≤ 3 * (S 1023 0) + 5 ∧ (S 1024 0) ≤ 2 * (S 1020 0) ∧ (S 1044 0) ≤ (S 1023 0) ∧ (S 1045 0) ≤ (S 1023 0)) ∧ (S 1021 0) = 0 ∧ (S 6 (S 1020 0)) = 5 ∧ p3 ≤ 16) → (30 * (20 - (S 1023 0)) + 8) = d → sv_T sm_XS sm_cs sm_L sm_sh (30 * (20 - (S 1023 0)) + 8).toNat (q_items p1 p2 p3 S) 58 0 (lv_args 0 [.ref 0, sv_I p1, sv_I p2, sv_I p3]) [] S
def q_primary (S : sv_S) : Option Value → sv_S → Prop := fun v S' => ∃ r : Int, v = some (sv_I r) ∧ sv_R r ∧ sm_ok S' ∧ sv_mod [1020, 1021, 1022, 1023, 5, 1011, 3, 4, 1007, 1009, 11, 12, 13, 14, 1024, 15, 16, 1031, 1032, 17, 18, 19, 20, 21, 22, 23, 24, 25, 1042, 1043, 1044, 1045, 1100001, 1100002, 1100005, 1100003, 1100004] S S' ∧ ((S 1020 0) ≤ (S' 1020 0) ∧ (S' 1020 0) < (S' 1012 0) ∧ 0 ≤ (S' 1021 0) ∧ (0 < (S 1021 0) → 0 < (S' 1021 0)) ∧ (S 1007 0) ≤ (S' 1007 0) ∧ (S' 1007 0) ≤ 90 ∧ sm_LN (S' 4) (S' 1007 0) ∧ ((S 1009 0) = 1 → (S' 1009 0) = 1) ∧ sm_WF (S' 11) (S' 12) (S' 13) (S' 1100001) (S' 1100002) (S' 1100005) (S' 1100003) (S' 1100004) (S' 1024 0) (S' 1007 0) (S' 1009 0) (S' 1032 0) ∧ sm_PS (S 11) (S 1100001) (S 1100002) (S 1100005) (S 1100003) (S 1100004) (S' 11) (S' 1100001) (S' 1100002) (S' 1100005) (S' 1100003) (S' 1100004) (S 1024 0) ∧ sm_KL (S 15) (S 16) (S' 15) (S' 16) (S 1031 0) ∧ sm_HD (S' 23) (S' 24) (S' 1032 0) (S' 1007 0) ∧ sm_HD (S' 25) (fun _ : Int => (S' 1042 0)) 1 (S' 1007 0) ∧ (S' 1031 0) = (S 1031 0) ∧ (S' 1043 0) = (S 1043 0) ∧ (S' 1044 0) = (S 1044 0) ∧ (S' 1045 0) = (S 1045 0) ∧ (S 1032 0) ≤ (S' 1032 0) ∧ (S' 1032 0) ≤ 1 + (S' 1020 0) ∧ (S 1024 0) ≤ (S' 1024 0) ∧ ((S' 1021 0) = 0 → (S' 1023 0) = (S 1023 0) ∧ (S' 1024 0) + 1 ≤ (S 1024 0) + 2 * ((S' 1020 0) - (S 1020 0))) ∧ (0 < (S' 1021 0) → (S' 1024 0) ≤ (S 1024 0) + 2 * ((S' 1020 0) - (S 1020 0)) + 2 * (30 * (20 - (S 1023 0)) + 9)) ∧ -1 ≤ r ∧ r < 12000 ∧ ((S' 1021 0) = 0 → (S 1020 0) < (S' 1020 0) ∧ 1 ≤ (S 6 (S 1020 0)) ∧ sm_ex (S' 1100001) (S' 1100002) (S' 1100005) (S' 1024 0) 1 r (17 * (20 - (S 1023 0)) + 2) (20 - (S 1023 0)) ∧ ((S' 11 r) = 2 ∨ (S' 11 r) = 7 → (S' 1100002 r) ≤ 17 * (20 - (S 1023 0)) + 2)) ∧ (0 < (S 1021 0) → (S' 1020 0) = (S 1020 0) ∧ (S' 1024 0) = (S 1024 0)))
def T_primary (d : Int) : Prop := ∀ (S : sv_S), sm_ok S → (0 ≤ (S 1020 0) ∧ (S 1020 0) < (S 1012 0) ∧ sm_TK (S 6) (S 8) (S 9) (S 10) (S 1012 0) ∧ 0 ≤ (S 1021 0) ∧ 0 ≤ (S 1004 0) ∧ (S 1004 0) ≤ 4000 ∧ 0 ≤ (S 1007 0) ∧ (S 1007 0) ≤ 90 ∧ sm_LN (S 4) (S 1007 0) ∧ sm_WF (S 11) (S 12) (S 13) (S 1100001) (S 1100002) (S 1100005) (S 1100003) (S 1100004) (S 1024 0) (S 1007 0) (S 1009 0) (S 1032 0) ∧ sm_HD (S 23) (S 24) (S 1032 0) (S 1007 0) ∧ sm_HD (S 25) (fun _ : Int => (S 1042 0)) 1 (S 1007 0) ∧ 0 ≤ (S 1043 0) ∧ (S 1043 0) < (S 1032 0) ∧ (S 1032 0) ≤ 1 + (S 1020 0) ∧ 0 ≤ (S 1031 0) ∧ (S 1031 0) ≤ 100 ∧ 0 ≤ (S 1044 0) ∧ (S 1044 0) ≤ 30 ∧ 0 ≤ (S 1045 0) ∧ (S 1045 0) ≤ 30 ∧ 0 ≤ (S 1024 0) ∧ ((S 1021 0) = 0 → 0 ≤ (S 1023 0) ∧ (S 1023 0) ≤ 20 ∧ (S 1031 0) ≤ 3 * (S 1023 0) + 5 ∧ (S 1024 0) ≤ 2 * (S 1020 0) ∧ (S 1044 0) ≤ (S 1023 0) ∧ (S 1045 0) ≤ (S 1023 0)) ∧ (S 1021 0) = 0) → (30 * (20 - (S 1023 0)) + 9) = d → sv_T sm_XS sm_cs sm_L sm_sh (30 * (20 - (S 1023 0)) + 9).toNat (q_primary S) 59 0 (lv_args 0 [.ref 0]) [] S
def q_bracketed (S : sv_S) : Option Value → sv_S → Prop := fun v S' => ∃ r : Int, v = some (sv_I r) ∧ sv_R r ∧ sm_ok S' ∧ sv_mod [1020, 1021, 1022, 1023, 5, 1011, 3, 4, 1007, 1009, 11, 12, 13, 14, 1024, 15, 16, 1031, 1032, 17, 18, 19, 20, 21, 22, 23, 24, 25, 1042, 1043, 1044, 1045, 1100001, 1100002, 1100005, 1100003, 1100004] S S' ∧ ((S 1020 0) ≤ (S' 1020 0) ∧ (S' 1020 0) < (S' 1012 0) ∧ 0 ≤ (S' 1021 0) ∧ (0 < (S 1021 0) → 0 < (S' 1021 0)) ∧ (S 1007 0) ≤ (S' 1007 0) ∧ (S' 1007 0) ≤ 90 ∧ sm_LN (S' 4) (S' 1007 0) ∧ ((S 1009 0) = 1 → (S' 1009 0) = 1) ∧ sm_WF (S' 11) (S' 12) (S' 13) (S' 1100001) (S' 1100002) (S' 1100005) (S' 1100003) (S' 1100004) (S' 1024 0) (S' 1007 0) (S' 1009 0) (S' 1032 0) ∧ sm_PS (S 11) (S 1100001) (S 1100002) (S 1100005) (S 1100003) (S 1100004) (S' 11) (S' 1100001) (S' 1100002) (S' 1100005) (S' 1100003) (S' 1100004) (S 1024 0) ∧ sm_KL (S 15) (S 16) (S' 15) (S' 16) (S 1031 0) ∧ sm_HD (S' 23) (S' 24) (S' 1032 0) (S' 1007 0) ∧ sm_HD (S' 25) (fun _ : Int => (S' 1042 0)) 1 (S' 1007 0) ∧ (S' 1031 0) = (S 1031 0) ∧ (S' 1043 0) = (S 1043 0) ∧ (S' 1044 0) = (S 1044 0) ∧ (S' 1045 0) = (S 1045 0) ∧ (S 1032 0) ≤ (S' 1032 0) ∧ (S' 1032 0) ≤ 1 + (S' 1020 0) ∧ (S 1024 0) ≤ (S' 1024 0) ∧ ((S' 1021 0) = 0 → (S' 1023 0) = (S 1023 0) ∧ (S' 1024 0) + 1 ≤ (S 1024 0) + 2 * ((S' 1020 0) - (S 1020 0))) ∧ (0 < (S' 1021 0) → (S' 1024 0) ≤ (S 1024 0) + 2 * ((S' 1020 0) - (S 1020 0)) + 2 * (30 * (20 - (S 1023 0)) + 8)) ∧ -1 ≤ r ∧ r < 12000 ∧ ((S' 1021 0) = 0 → (S 1020 0) < (S' 1020 0) ∧ 1 ≤ (S 6 (S 1020 0)) ∧ sm_ex (S' 1100001) (S' 1100002) (S' 1100005) (S' 1024 0) 1 r (17 * (20 - (S 1023 0)) + 2) (20 - (S 1023 0)) ∧ ((S' 11 r) = 2 ∨ (S' 11 r) = 7 → (S' 1100002 r) ≤ 17 * (20 - (S 1023 0)) + 2)))
def T_bracketed (d : Int) : Prop := ∀ (S : sv_S), sm_ok S → (0 ≤ (S 1020 0) ∧ (S 1020 0) < (S 1012 0) ∧ sm_TK (S 6) (S 8) (S 9) (S 10) (S 1012 0) ∧ 0 ≤ (S 1021 0) ∧ 0 ≤ (S 1004 0) ∧ (S 1004 0) ≤ 4000 ∧ 0 ≤ (S 1007 0) ∧ (S 1007 0) ≤ 90 ∧ sm_LN (S 4) (S 1007 0) ∧ sm_WF (S 11) (S 12) (S 13) (S 1100001) (S 1100002) (S 1100005) (S 1100003) (S 1100004) (S 1024 0) (S 1007 0) (S 1009 0) (S 1032 0) ∧ sm_HD (S 23) (S 24) (S 1032 0) (S 1007 0) ∧ sm_HD (S 25) (fun _ : Int => (S 1042 0)) 1 (S 1007 0) ∧ 0 ≤ (S 1043 0) ∧ (S 1043 0) < (S 1032 0) ∧ (S 1032 0) ≤ 1 + (S 1020 0) ∧ 0 ≤ (S 1031 0) ∧ (S 1031 0) ≤ 100 ∧ 0 ≤ (S 1044 0) ∧ (S 1044 0) ≤ 30 ∧ 0 ≤ (S 1045 0) ∧ (S 1045 0) ≤ 30 ∧ 0 ≤ (S 1024 0) ∧ ((S 1021 0) = 0 → 0 ≤ (S 1023 0) ∧ (S 1023 0) ≤ 20 ∧ (S 1031 0) ≤ 3 * (S 1023 0) + 5 ∧ (S 1024 0) ≤ 2 * (S 1020 0) ∧ (S 1044 0) ≤ (S 1023 0) ∧ (S 1045 0) ≤ (S 1023 0)) ∧ (S 1021 0) = 0 ∧ (S 6 (S 1020 0)) = 5) → (30 * (20 - (S 1023 0)) + 8) = d → sv_T sm_XS sm_cs sm_L sm_sh (30 * (20 - (S 1023 0)) + 8).toNat (q_bracketed S) 60 0 (lv_args 0 [.ref 0]) [] S
def q_pairs (S : sv_S) : Option Value → sv_S → Prop := fun v S' => ∃ r : Int, v = some (sv_I r) ∧ sv_R r ∧ sm_ok S' ∧ sv_mod [1020, 1021, 1022, 1023, 5, 1011, 3, 4, 1007, 1009, 11, 12, 13, 14, 1024, 15, 16, 1031, 1032, 17, 18, 19, 20, 21, 22, 23, 24, 25, 1042, 1043, 1044, 1045, 1100001, 1100002, 1100005, 1100003, 1100004] S S' ∧ ((S 1020 0) ≤ (S' 1020 0) ∧ (S' 1020 0) < (S' 1012 0) ∧ 0 ≤ (S' 1021 0) ∧ (0 < (S 1021 0) → 0 < (S' 1021 0)) ∧ (S 1007 0) ≤ (S' 1007 0) ∧ (S' 1007 0) ≤ 90 ∧ sm_LN (S' 4) (S' 1007 0) ∧ ((S 1009 0) = 1 → (S' 1009 0) = 1) ∧ sm_WF (S' 11) (S' 12) (S' 13) (S' 1100001) (S' 1100002) (S' 1100005) (S' 1100003) (S' 1100004) (S' 1024 0) (S' 1007 0) (S' 1009 0) (S' 1032 0) ∧ sm_PS (S 11) (S 1100001) (S 1100002) (S 1100005) (S 1100003) (S 1100004) (S' 11) (S' 1100001) (S' 1100002) (S' 1100005) (S' 1100003) (S' 1100004) (S 1024 0) ∧ sm_KL (S 15) (S 16) (S' 15) (S' 16) (S 1031 0) ∧ sm_HD (S' 23) (S' 24) (S' 1032 0) (S' 1007 0) ∧ sm_HD (S' 25) (fun _ : Int => (S' 1042 0)) 1 (S' 1007 0) ∧ (S' 1031 0) = (S 1031 0) ∧ (S' 1043 0) = (S 1043 0) ∧ (S' 1044 0) = (S 1044 0) ∧ (S' 1045 0) = (S 1045 0) ∧ (S 1032 0) ≤ (S' 1032 0) ∧ (S' 1032 0) ≤ 1 + (S' 1020 0) ∧ (S 1024 0) ≤ (S' 1024 0) ∧ ((S' 1021 0) = 0 → (S' 1023 0) = (S 1023 0) ∧ (S' 1024 0) + 2 ≤ (S 1024 0) + 2 * ((S' 1020 0) - (S 1020 0))) ∧ (0 < (S' 1021 0) → (S' 1024 0) ≤ (S 1024 0) + 2 * ((S' 1020 0) - (S 1020 0)) + 2 * (30 * (20 - (S 1023 0)) + 8)) ∧ -1 ≤ r ∧ r < 12000 ∧ ((S' 1021 0) = 0 → sm_li (S' 1100001) (S' 1100002) (S' 1100005) (S' 1024 0) 4 r (17 * (20 - (S 1023 0))) (19 - (S 1023 0)) ∧ (S 1020 0) < (S' 1020 0)))
def T_pairs (d : Int) : Prop := ∀ (S : sv_S), sm_ok S → (0 ≤ (S 1020 0) ∧ (S 1020 0) < (S 1012 0) ∧ sm_TK (S 6) (S 8) (S 9) (S 10) (S 1012 0) ∧ 0 ≤ (S 1021 0) ∧ 0 ≤ (S 1004 0) ∧ (S 1004 0) ≤ 4000 ∧ 0 ≤ (S 1007 0) ∧ (S 1007 0) ≤ 90 ∧ sm_LN (S 4) (S 1007 0) ∧ sm_WF (S 11) (S 12) (S 13) (S 1100001) (S 1100002) (S 1100005) (S 1100003) (S 1100004) (S 1024 0) (S 1007 0) (S 1009 0) (S 1032 0) ∧ sm_HD (S 23) (S 24) (S 1032 0) (S 1007 0) ∧ sm_HD (S 25) (fun _ : Int => (S 1042 0)) 1 (S 1007 0) ∧ 0 ≤ (S 1043 0) ∧ (S 1043 0) < (S 1032 0) ∧ (S 1032 0) ≤ 1 + (S 1020 0) ∧ 0 ≤ (S 1031 0) ∧ (S 1031 0) ≤ 100 ∧ 0 ≤ (S 1044 0) ∧ (S 1044 0) ≤ 30 ∧ 0 ≤ (S 1045 0) ∧ (S 1045 0) ≤ 30 ∧ 0 ≤ (S 1024 0) ∧ ((S 1021 0) = 0 → 0 ≤ (S 1023 0) ∧ (S 1023 0) ≤ 20 ∧ (S 1031 0) ≤ 3 * (S 1023 0) + 5 ∧ (S 1024 0) ≤ 2 * (S 1020 0) ∧ (S 1044 0) ≤ (S 1023 0) ∧ (S 1045 0) ≤ (S 1023 0)) ∧ (S 1021 0) = 0 ∧ (S 6 (S 1020 0)) = 5) → (30 * (20 - (S 1023 0)) + 8) = d → sv_T sm_XS sm_cs sm_L sm_sh (30 * (20 - (S 1023 0)) + 8).toNat (q_pairs S) 61 0 (lv_args 0 [.ref 0]) [] S
def q_function (p1 : Int) (S : sv_S) : Option Value → sv_S → Prop := fun v S' => ∃ r : Int, v = some (sv_I r) ∧ sv_R r ∧ sm_ok S' ∧ sv_mod [1020, 1021, 1022, 1023, 5, 1011, 3, 4, 1007, 1009, 11, 12, 13, 14, 1024, 15, 16, 1031, 1032, 17, 18, 19, 20, 21, 22, 23, 24, 25, 1042, 1043, 1044, 1045, 1100001, 1100002, 1100005, 1100003, 1100004] S S' ∧ ((S 1020 0) ≤ (S' 1020 0) ∧ (S' 1020 0) < (S' 1012 0) ∧ 0 ≤ (S' 1021 0) ∧ (0 < (S 1021 0) → 0 < (S' 1021 0)) ∧ (S 1007 0) ≤ (S' 1007 0) ∧ (S' 1007 0) ≤ 90 ∧ sm_LN (S' 4) (S' 1007 0) ∧ ((S 1009 0) = 1 → (S' 1009 0) = 1) ∧ sm_WF (S' 11) (S' 12) (S' 13) (S' 1100001) (S' 1100002) (S' 1100005) (S' 1100003) (S' 1100004) (S' 1024 0) (S' 1007 0) (S' 1009 0) (S' 1032 0) ∧ sm_PS (S 11) (S 1100001) (S 1100002) (S 1100005) (S 1100003) (S 1100004) (S' 11) (S' 1100001) (S' 1100002) (S' 1100005) (S' 1100003) (S' 1100004) (S 1024 0) ∧ sm_KL (S 15) (S 16) (S' 15) (S' 16) (S 1031 0) ∧ sm_HD (S' 23) (S' 24) (S' 1032 0) (S' 1007 0) ∧ sm_HD (S' 25) (fun _ : Int => (S' 1042 0)) 1 (S' 1007 0) ∧ (S' 1031 0) = (S 1031 0) ∧ (S' 1043 0) = (S 1043 0) ∧ (S' 1044 0) = (S 1044 0) ∧ (S' 1045 0) = (S 1045 0) ∧ (S 1032 0) ≤ (S' 1032 0) ∧ (S' 1032 0) ≤ 1 + (S' 1020 0) ∧ (S 1024 0) ≤ (S' 1024 0) ∧ ((S' 1021 0) = 0 → (S' 1023 0) = (S 1023 0) ∧ (S' 1024 0) + 2 ≤ (S 1024 0) + 2 * ((S' 1020 0) - (S 1020 0))) ∧ (0 < (S' 1021 0) → (S' 1024 0) ≤ (S 1024 0) + 2 * ((S' 1020 0) - (S 1020 0)) + 2 * (30 * (20 - (S 1023 0)) + 8)) ∧ 0 ≤ r ∧ ((S' 1021 0) = 0 → 1 ≤ r ∧ r < (S' 1032 0) ∧ (S 1020 0) < (S' 1020 0)))
def T_function (d : Int) : Prop := ∀ (p1 : Int) (S : sv_S), sm_ok S → (0 ≤ p1 ∧ p1 ≤ 1) → (0 ≤ (S 1020 0) ∧ (S 1020 0) < (S 1012 0) ∧ sm_TK (S 6) (S 8) (S 9) (S 10) (S 1012 0) ∧ 0 ≤ (S 1021 0) ∧ 0 ≤ (S 1004 0) ∧ (S 1004 0) ≤ 4000 ∧ 0 ≤ (S 1007 0) ∧ (S 1007 0) ≤ 90 ∧ sm_LN (S 4) (S 1007 0) ∧ sm_WF (S 11) (S 12) (S 13) (S 1100001) (S 1100002) (S 1100005) (S 1100003) (S 1100004) (S 1024 0) (S 1007 0) (S 1009 0) (S 1032 0) ∧ sm_HD (S 23) (S 24) (S 1032 0) (S 1007 0) ∧ sm_HD (S 25) (fun _ : Int => (S 1042 0)) 1 (S 1007 0) ∧ 0 ≤ (S 1043 0) ∧ (S 1043 0) < (S 1032 0) ∧ (S 1032 0) ≤ 1 + (S 1020 0) ∧ 0 ≤ (S 1031 0) ∧ (S 1031 0) ≤ 100 ∧ 0 ≤ (S 1044 0) ∧ (S 1044 0) ≤ 30 ∧ 0 ≤ (S 1045 0) ∧ (S 1045 0) ≤ 30 ∧ 0 ≤ (S 1024 0) ∧ ((S 1021 0) = 0 → 0 ≤ (S 1023 0) ∧ (S 1023 0) ≤ 20 ∧ (S 1031 0) ≤ 3 * (S 1023 0) + 5 ∧ (S 1024 0) ≤ 2 * (S 1020 0) ∧ (S 1044 0) ≤ (S 1023 0) ∧ (S 1045 0) ≤ (S 1023 0)) ∧ (S 1021 0) = 0 ∧ (S 6 (S 1020 0)) = 2) → (30 * (20 - (S 1023 0)) + 8) = d → sv_T sm_XS sm_cs sm_L sm_sh (30 * (20 - (S 1023 0)) + 8).toNat (q_function p1 S) 62 0 (lv_args 0 [.ref 0, sv_I p1]) [] S
def P_P (d : Int) : Prop := T_expression d ∧ T_opened d ∧ T_assigned d ∧ T_conditional d ∧ T_binary d ∧ T_unit d ∧ T_postfix d ∧ T_left d ∧ T_fresh d ∧ T_member d ∧ T_arguments d ∧ T_items d ∧ T_primary d ∧ T_bracketed d ∧ T_pairs d ∧ T_function d
theorem la_expression_0 {x0 : Int} (h0 : 0 ≤ x0) (h1 : x0 ≤ 1) : 0 ≤ x0 ∧ x0 ≤ 1 := by omega
theorem la_expression_1 {x0 x1 x2 x3 x4 x5 x6 x7 x8 : Int} (h0 : 0 ≤ x0) (h1 : x0 < x1) (h2 : x1 ≤ 1 + x2) (h3 : 0 ≤ x3) (h4 : x3 ≤ 100) (h5 : 0 ≤ x4) (h6 : x4 ≤ 30) (h7 : 0 ≤ x5) (h8 : x5 ≤ 30) (h9 : 0 ≤ x6) (h10 : x7 = 0 → 0 ≤ x8 ∧ x8 ≤ 20 ∧ x3 ≤ 3 * x8 + 5 ∧ x6 ≤ 2 * x2 ∧ x4 ≤ x8 ∧ x5 ≤ x8) : 0 ≤ x0 ∧ x0 < x1 ∧ x1 ≤ 1 + x2 ∧ 0 ≤ x3 ∧ x3 ≤ 100 ∧ 0 ≤ x4 ∧ x4 ≤ 30 ∧ 0 ≤ x5 ∧ x5 ≤ 30 ∧ 0 ≤ x6 ∧ (x7 = 0 → 0 ≤ x8 ∧ x8 ≤ 20 ∧ x3 ≤ 3 * x8 + 5 ∧ x6 ≤ 2 * x2 ∧ x4 ≤ x8 ∧ x5 ≤ x8) := by omega
theorem la_expression_2 {x0 : Int} (h0 : x0 = 0) : ¬ 0 < x0 := by omega
theorem la_expression_3 {x0 x1 x2 x3 x4 x5 x6 x7 : Int} (h0 : 0 ≤ x0) (h1 : x0 = 0 → 0 ≤ x1 ∧ x1 ≤ 20 ∧ x2 ≤ 3 * x1 + 5 ∧ x3 ≤ 2 * x4 ∧ x5 ≤ x1 ∧ x6 ≤ x1) (h2 : x0 = 0) (h3 : x7 = 30 * (20 - x1) + 25) : 0 ≤ x7 := by omega
theorem la_expression_4 {x0 x1 x2 : Int} (h0 : 30 * (20 - x0) + 26 = x1) (h1 : x2 = 30 * (20 - x0) + 25) : x2 < x1 := by omega
theorem la_expression_5 {x0 x1 : Int} (h0 : x0 = 30 * (20 - x1) + 25) : x0 + 1 ≤ 30 * (20 - x1) + 26 := by omega
theorem la_expression_6 {x0 x1 : Int} (h0 : 0 ≤ x0) (h1 : x0 ≤ x1) : 0 ≤ x1 := by omega
theorem la_expression_7 {x0 x1 : Int} (h0 : 0 ≤ x0) (h1 : x1 = x0) : 0 ≤ x1 := by omega
theorem la_expression_8 {x0 x1 x2 x3 : Int} (h0 : x0 < x1) (h1 : x2 = x0) (h2 : x1 ≤ x3) : x2 < x3 := by omega
theorem la_expression_9 {x0 x1 : Int} (h0 : x0 ≤ 100) (h1 : x1 = x0) : x1 ≤ 100 := by omega
theorem la_expression_10 {x0 x1 : Int} (h0 : x0 ≤ 30) (h1 : x1 = x0) : x1 ≤ 30 := by omega
theorem la_expression_11 {x0 x1 x2 x3 x4 x5 x6 x7 x8 x9 x10 x11 x12 x13 : Int} (h0 : 0 ≤ x0) (h1 : x0 = 0 → 0 ≤ x1 ∧ x1 ≤ 20 ∧ x2 ≤ 3 * x1 + 5 ∧ x3 ≤ 2 * x4 ∧ x5 ≤ x1 ∧ x6 ≤ x1) (h2 : x0 = 0) (h3 : x7 = x2) (h4 : x8 = x5) (h5 : x9 = x6) (h6 : x10 = 0 → x11 = x1 ∧ x12 + 1 ≤ x3 + 2 * (x13 - x4)) : x10 = 0 → 0 ≤ x11 ∧ x11 ≤ 20 ∧ x7 ≤ 3 * x11 + 5 ∧ x12 ≤ 2 * x13 ∧ x8 ≤ x11 ∧ x9 ≤ x11 := by omega
theorem la_expression_12 {x0 x1 x2 x3 x4 x5 x6 x7 x8 x9 x10 x11 : Int} (h0 : 0 ≤ x0) (h1 : x0 = 0 → 0 ≤ x1 ∧ x1 ≤ 20 ∧ x2 ≤ 3 * x1 + 5 ∧ x3 ≤ 2 * x4 ∧ x5 ≤ x1 ∧ x6 ≤ x1) (h2 : x0 = 0) (h3 : x7 = 0 → x8 = x1 ∧ x9 + 1 ≤ x3 + 2 * (x10 - x4)) (h4 : 0 < x7 → x9 ≤ x3 + 2 * (x10 - x4) + 2 * x11) (h5 : x11 = 30 * (20 - x1) + 25) : 0 < x7 → x9 ≤ x3 + 2 * (x10 - x4) + 2 * (30 * (20 - x1) + 26) := by omega
theorem la_expression_13 {x0 x1 : Int} (h0 : x0 < x1) : 0 ≤ x1 - x0 := by omega
theorem la_expression_14 {x0 x1 x2 x3 x4 x5 x6 : Int} (h0 : 0 ≤ x0) (h1 : x1 ≤ x2) (h2 : x0 = 0 → x3 = x4 ∧ x2 + 1 ≤ x1 + 2 * (x5 - x6)) (h3 : x0 = 0) : x6 < x5 := by omega
theorem la_expression_15 {x0 x1 : Int} (h0 : 0 ≤ x0) (h1 : 0 ≤ x1) (h2 : ¬ x1 = 0) (h3 : x1 = 0) : x0 = 0 := by omega
theorem la_expression_16 {x0 x1 x2 : Int} (h0 : 0 ≤ x0) (h1 : ¬ x0 = 0) (h2 : x0 = 0) : x1 < x2 := by omega
theorem la_expression_17 {x0 : Int} (h0 : 0 ≤ x0) (h1 : ¬ x0 = 0) (h2 : x0 = 0) : False := by omega
theorem la_expression_18 {x0 x1 x2 : Int} (h0 : 0 ≤ x0) (h1 : ¬ x0 = 0) (h2 : x0 = 0) : x1 ≤ 17 * (20 - x2) + 2 := by omega
theorem la_expression_19 {x0 : Int} (h0 : 0 ≤ x0) (h1 : ¬ ¬ x0 = 0) : x0 = 0 := by omega
theorem la_expression_20 {x0 x1 x2 : Int} (h0 : 0 ≤ x0) (h1 : x1 ≤ 4001) (h2 : x2 < x1) (h3 : x0 < x2) : 0 ≤ x2 ∧ x2 ≤ 4000 := by omega
theorem la_expression_21 {x0 x1 x2 x3 x4 x5 x6 : Int} (h0 : 0 ≤ x0) (h1 : x0 = 0 → 0 ≤ x1 ∧ x1 ≤ 20 ∧ x2 ≤ 3 * x1 + 5 ∧ x3 ≤ 2 * x4 ∧ x5 ≤ x1 ∧ x6 ≤ x1) (h2 : x0 = 0) : 0 + 1 ≤ 30 * (20 - x1) + 26 := by omega
theorem la_expression_22 {x0 x1 x2 x3 x4 : Int} (h0 : 0 < x0 → 0 < x1) (h1 : x2 = 2 ∨ x2 = 7 → x3 ≤ 17 * (20 - x4) + 2) (h2 : x2 = 2 ∨ x2 = 7) : x3 ≤ 17 * (20 - x4) + 2 := by omega
theorem la_expression_23 {x0 x1 : Int} (h0 : x0 ≤ 4001) (h1 : 0 ≤ x1) (h2 : x1 < x0) : sv_R (x1 + 1) := by omega
theorem la_expression_24 {x0 x1 : Int} (h0 : 0 ≤ x0) (h1 : x0 < x1) : 0 ≤ x1 + 1 := by omega
theorem la_expression_25 {x0 x1 x2 : Int} (h0 : x0 = 5) (h1 : 1 ≤ x0 → x0 ≤ 5 → x1 + 1 < x2) : x1 + 1 < x2 := by omega
theorem la_expression_26 {x0 x1 : Int} (h0 : x0 ≤ 1 + x1) : x0 ≤ 1 + (x1 + 1) := by omega
theorem la_expression_27 {x0 x1 x2 x3 x4 x5 x6 : Int} (h0 : 0 ≤ x0) (h1 : x0 = 0 → 0 ≤ x1 ∧ x1 ≤ 20 ∧ x2 ≤ 3 * x1 + 5 ∧ x3 ≤ 2 * x4 ∧ x5 ≤ x1 ∧ x6 ≤ x1) (h2 : ¬ ¬ x0 = 0) : 0 ≤ x1 := by omega
theorem la_expression_28 {x0 x1 x2 x3 x4 x5 x6 : Int} (h0 : 0 ≤ x0) (h1 : x0 = 0 → 0 ≤ x1 ∧ x1 ≤ 20 ∧ x2 ≤ 3 * x1 + 5 ∧ x3 ≤ 2 * x4 ∧ x5 ≤ x1 ∧ x6 ≤ x1) (h2 : ¬ ¬ x0 = 0) : x1 ≤ 20 := by omega
theorem la_expression_29 {x0 x1 x2 x3 x4 x5 x6 : Int} (h0 : 0 ≤ x0) (h1 : x0 = 0 → 0 ≤ x1 ∧ x1 ≤ 20 ∧ x2 ≤ 3 * x1 + 5 ∧ x3 ≤ 2 * x4 ∧ x5 ≤ x1 ∧ x6 ≤ x1) (h2 : ¬ ¬ x0 = 0) : x2 ≤ 3 * x1 + 5 := by omega
theorem la_expression_30 {x0 x1 x2 x3 x4 x5 x6 : Int} (h0 : 0 ≤ x0) (h1 : x0 = 0 → 0 ≤ x1 ∧ x1 ≤ 20 ∧ x2 ≤ 3 * x1 + 5 ∧ x3 ≤ 2 * x4 ∧ x5 ≤ x1 ∧ x6 ≤ x1) (h2 : ¬ ¬ x0 = 0) : x3 ≤ 2 * (x4 + 1) := by omega
theorem la_expression_31 {x0 x1 x2 x3 x4 x5 x6 : Int} (h0 : 0 ≤ x0) (h1 : x0 = 0 → 0 ≤ x1 ∧ x1 ≤ 20 ∧ x2 ≤ 3 * x1 + 5 ∧ x3 ≤ 2 * x4 ∧ x5 ≤ x1 ∧ x6 ≤ x1) (h2 : ¬ ¬ x0 = 0) : x5 ≤ x1 := by omega
theorem la_expression_32 {x0 x1 x2 x3 x4 x5 x6 : Int} (h0 : 0 ≤ x0) (h1 : x0 = 0 → 0 ≤ x1 ∧ x1 ≤ 20 ∧ x2 ≤ 3 * x1 + 5 ∧ x3 ≤ 2 * x4 ∧ x5 ≤ x1 ∧ x6 ≤ x1) (h2 : ¬ ¬ x0 = 0) : x6 ≤ x1 := by omega
theorem la_expression_33 {x0 : Int} (h0 : ¬ ¬ x0 = 0) : ¬ 0 < x0 := by omega
theorem la_expression_34 {x0 x1 x2 x3 x4 x5 x6 x7 : Int} (h0 : 0 ≤ x0) (h1 : x0 = 0 → 0 ≤ x1 ∧ x1 ≤ 20 ∧ x2 ≤ 3 * x1 + 5 ∧ x3 ≤ 2 * x4 ∧ x5 ≤ x1 ∧ x6 ≤ x1) (h2 : ¬ ¬ x0 = 0) (h3 : x7 = 30 * (20 - x1) + 25) : 0 ≤ x7 := by omega
theorem la_expression_35 {x0 x1 x2 x3 x4 x5 x6 x7 x8 : Int} (h0 : 30 * (20 - x0) + 26 = x1) (h1 : 0 ≤ x2) (h2 : x2 = 0 → x3 = x0 ∧ x4 + 1 ≤ x5 + 2 * (x6 - x7)) (h3 : ¬ ¬ x2 = 0) (h4 : x8 = 30 * (20 - x3) + 25) : x8 < x1 := by omega
theorem la_expression_36 {x0 x1 x2 x3 x4 x5 x6 x7 : Int} (h0 : 0 ≤ x0) (h1 : x0 = 0 → x1 = x2 ∧ x3 + 1 ≤ x4 + 2 * (x5 - x6)) (h2 : ¬ ¬ x0 = 0) (h3 : x7 = 30 * (20 - x1) + 25) : x7 + 1 ≤ 30 * (20 - x2) + 26 := by omega
theorem la_expression_37 {x0 x1 x2 x3 x4 x5 x6 x7 x8 x9 x10 x11 x12 x13 : Int} (h0 : x0 ≤ 4001) (h1 : 0 ≤ x1) (h2 : x1 = 0 → 0 ≤ x2 ∧ x2 ≤ 20 ∧ x3 ≤ 3 * x2 + 5 ∧ x4 ≤ 2 * x5 ∧ x6 ≤ x2 ∧ x7 ≤ x2) (h3 : ¬ ¬ x1 = 0) (h4 : 0 ≤ x8) (h5 : x8 < x4) (h6 : x9 < x0) (h7 : 0 ≤ x10) (h8 : x4 ≤ x11) (h9 : x10 = 0 → x12 = x2 ∧ x11 + 1 ≤ x4 + 2 * (x9 - (x5 + 1))) (h10 : 0 < x10 → x11 ≤ x4 + 2 * (x9 - (x5 + 1)) + 2 * x13) (h11 : x13 = 30 * (20 - x2) + 25) : 0 ≤ x11 ∧ x11 < 12000 := by omega
theorem la_expression_38 {x0 : Int} (h0 : x0 = 1) : sv_R x0 := by omega
theorem la_expression_39 {x0 : Int} (h0 : x0 = 0) : sv_R x0 := by omega
theorem la_expression_40 {x0 x1 x2 x3 x4 x5 x6 : Int} (h0 : 0 ≤ x0) (h1 : x0 = 0 → 0 ≤ x1 ∧ x1 ≤ 20 ∧ x2 ≤ 3 * x1 + 5 ∧ x3 ≤ 2 * x4 ∧ x5 ≤ x1 ∧ x6 ≤ x1) (h2 : x0 = 0) : sv_R (17 * (20 - x1) + 17) := by omega
theorem la_expression_41 {x0 x1 x2 x3 x4 x5 x6 x7 : Int} (h0 : 0 ≤ x0) (h1 : x0 = 0 → 0 ≤ x1 ∧ x1 ≤ 20 ∧ x2 ≤ 3 * x1 + 5 ∧ x3 ≤ 2 * x4 ∧ x5 ≤ x1 ∧ x6 ≤ x1) (h2 : x0 = 0) (h3 : x7 = 30 * (20 - x1) + 25) : sv_R (20 - x1) := by omega
theorem la_expression_42 {x0 x1 x2 x3 : Int} (h0 : 0 ≤ x0) (h1 : x0 < x1) (h2 : x1 ≤ x2) (h3 : x3 = x2) : 0 ≤ x3 := by omega
theorem la_expression_43 {x0 x1 x2 : Int} (h0 : x0 = x1) (h1 : x2 = x1 + 1) : x0 < x2 := by omega
theorem la_expression_44 {x0 x1 x2 : Int} (h0 : x0 ≤ x1) (h1 : x2 = x1 + 1) : x0 ≤ x2 := by omega
theorem la_expression_45 {x0 x1 x2 x3 x4 : Int} (h0 : x0 < x1) (h1 : x1 ≤ x2) (h2 : x3 = x2) (h3 : x4 = x0) : x4 < x3 := by omega
theorem la_expression_46 {x0 x1 x2 x3 x4 x5 x6 : Int} (h0 : 0 ≤ x0) (h1 : x0 = 0 → x1 = x2 ∧ x3 + 1 ≤ x4 + 2 * (x5 - x6)) (h2 : ¬ ¬ x0 = 0) : 17 * (20 - x1) + 17 ≤ 17 * (20 - x2) + 17 := by omega
theorem la_expression_47 {x0 x1 x2 x3 x4 x5 x6 : Int} (h0 : 0 ≤ x0) (h1 : x0 = 0 → x1 = x2 ∧ x3 + 1 ≤ x4 + 2 * (x5 - x6)) (h2 : ¬ ¬ x0 = 0) : 20 - x1 ≤ 20 - x2 := by omega
theorem la_expression_48 {x0 x1 : Int} (h0 : x0 = x1 + 1) : x1 ≤ x0 := by omega
theorem la_expression_49 {x0 x1 x2 : Int} (h0 : 0 ≤ x0) (h1 : x0 < x1) (h2 : x1 + 1 ≤ x2) : 0 ≤ x2 := by omega
theorem la_expression_50 {x0 x1 x2 x3 : Int} (h0 : 0 ≤ x0) (h1 : x0 < x1) (h2 : x1 ≤ x2) (h3 : x3 = x2 + 1) : 0 ≤ x3 := by omega
theorem la_expression_51 {x0 x1 x2 x3 x4 x5 x6 x7 x8 x9 x10 x11 x12 x13 x14 x15 x16 x17 x18 x19 x20 x21 : Int} (h0 : 0 ≤ x0) (h1 : x0 = 0 → 0 ≤ x1 ∧ x1 ≤ 20 ∧ x2 ≤ 3 * x1 + 5 ∧ x3 ≤ 2 * x4 ∧ x5 ≤ x1 ∧ x6 ≤ x1) (h2 : x0 = 0) (h3 : 0 ≤ x7) (h4 : x7 = 0 → 0 ≤ x8 ∧ x8 ≤ 20 ∧ x9 ≤ 3 * x8 + 5 ∧ x10 ≤ 2 * x11 ∧ x12 ≤ x8 ∧ x13 ≤ x8) (h5 : x7 = 0 → x8 = x1 ∧ x10 + 1 ≤ x3 + 2 * (x11 - x4)) (h6 : ¬ ¬ x7 = 0) (h7 : x14 = x9) (h8 : x15 = x12) (h9 : x16 = x13) (h10 : x17 = 0 → x18 = x8 ∧ x19 + 1 ≤ x10 + 2 * (x20 - (x11 + 1))) (h11 : x21 = x19 + 1) : x17 = 0 → 0 ≤ x18 ∧ x18 ≤ 20 ∧ x14 ≤ 3 * x18 + 5 ∧ x21 ≤ 2 * x20 ∧ x15 ≤ x18 ∧ x16 ≤ x18 := by omega
theorem la_expression_52 {x0 x1 x2 : Int} (h0 : x0 < x1) (h1 : x1 + 1 ≤ x2) : x0 ≤ x2 := by omega
theorem la_expression_53 {x0 x1 : Int} (h0 : x0 = 0) : 0 < x0 → 0 < x1 := by omega
theorem la_expression_54 {x0 x1 x2 : Int} (h0 : x0 ≤ x1) (h1 : x1 ≤ x2) : x0 ≤ x2 := by omega
theorem la_expression_55 {x0 x1 x2 : Int} (h0 : x0 = 1 → x1 = 1) (h1 : x1 = 1 → x2 = 1) : x0 = 1 → x2 = 1 := by omega
theorem la_expression_56 {x0 x1 x2 x3 : Int} (h0 : x0 ≤ x1) (h1 : x1 ≤ x2) (h2 : x3 = x2 + 1) : x0 ≤ x3 := by omega
theorem la_expression_57 {x0 x1 : Int} (h0 : x0 = x1) : x1 ≤ x0 := by omega
theorem la_expression_58 {x0 x1 x2 : Int} (h0 : x0 = x1) (h1 : x2 = x0) : x2 = x1 := by omega
theorem la_expression_59 {x0 x1 x2 x3 x4 x5 x6 x7 x8 x9 x10 x11 : Int} (h0 : 0 ≤ x0) (h1 : x0 = 0 → x1 = x2 ∧ x3 + 1 ≤ x4 + 2 * (x5 - x6)) (h2 : ¬ ¬ x0 = 0) (h3 : x7 = 0 → x8 = x1 ∧ x9 + 1 ≤ x3 + 2 * (x10 - (x5 + 1))) (h4 : x11 = x9 + 1) : x7 = 0 → x8 = x2 ∧ x11 + 1 ≤ x4 + 2 * (x10 - x6) := by omega
theorem la_expression_60 {x0 x1 x2 x3 x4 x5 x6 x7 x8 x9 x10 x11 x12 x13 x14 x15 x16 : Int} (h0 : 0 ≤ x0) (h1 : x0 = 0 → 0 ≤ x1 ∧ x1 ≤ 20 ∧ x2 ≤ 3 * x1 + 5 ∧ x3 ≤ 2 * x4 ∧ x5 ≤ x1 ∧ x6 ≤ x1) (h2 : x0 = 0) (h3 : 0 ≤ x7) (h4 : x7 = 0 → x8 = x1 ∧ x9 + 1 ≤ x3 + 2 * (x10 - x4)) (h5 : ¬ ¬ x7 = 0) (h6 : x11 = 0 → x12 = x8 ∧ x13 + 1 ≤ x9 + 2 * (x14 - (x10 + 1))) (h7 : 0 < x11 → x13 ≤ x9 + 2 * (x14 - (x10 + 1)) + 2 * x15) (h8 : x15 = 30 * (20 - x8) + 25) (h9 : x16 = x13 + 1) : 0 < x11 → x16 ≤ x3 + 2 * (x14 - x4) + 2 * (30 * (20 - x1) + 26) := by omega
theorem la_expression_61 {x0 x1 x2 x3 : Int} (h0 : 0 ≤ x0) (h1 : x0 < x1) (h2 : x1 ≤ x2) (h3 : x3 = x2) : (-1) ≤ x3 := by omega
theorem la_expression_62 {x0 x1 x2 x3 x4 x5 x6 x7 x8 x9 x10 x11 x12 x13 : Int} (h0 : x0 ≤ 4001) (h1 : 0 ≤ x1) (h2 : x1 = 0 → 0 ≤ x2 ∧ x2 ≤ 20 ∧ x3 ≤ 3 * x2 + 5 ∧ x4 ≤ 2 * x5 ∧ x6 ≤ x2 ∧ x7 ≤ x2) (h3 : ¬ ¬ x1 = 0) (h4 : x8 < x0) (h5 : 0 ≤ x9) (h6 : x9 = 0 → x10 = x2 ∧ x11 + 1 ≤ x4 + 2 * (x8 - (x5 + 1))) (h7 : 0 < x9 → x11 ≤ x4 + 2 * (x8 - (x5 + 1)) + 2 * x12) (h8 : x12 = 30 * (20 - x2) + 25) (h9 : x13 = x11) : x13 < 12000 := by omega
theorem la_expression_63 {x0 x1 x2 : Int} (h0 : x0 < x1) (h1 : x1 + 1 < x2) : x0 < x2 := by omega
theorem la_expression_64 {x0 x1 x2 : Int} (h0 : x0 = x1) (h1 : 0 ≤ x2) (h2 : x2 < x1) : 0 ≤ x0 := by omega
theorem la_expression_65 {x0 : Int} : 17 * (20 - x0) + 17 ≤ 17 * (20 - x0) + 17 := by omega
theorem la_expression_66 {x0 : Int} : 20 - x0 ≤ 20 - x0 := by omega
theorem la_expression_67 {x0 x1 : Int} (h0 : 0 ≤ x0) (h1 : x0 < x1) : 0 ≤ x1 := by omega
theorem la_expression_68 {x0 : Int} (h0 : x0 = 1) : ¬ x0 = 0 := by omega
theorem la_expression_69 {x0 x1 x2 : Int} (h0 : x0 < x1) (h1 : x2 = x0) : x2 < x1 := by omega
theorem la_expression_70 {x0 x1 x2 : Int} (h0 : x0 < x1) (h1 : x1 ≤ x2) : x0 < x2 := by omega
theorem la_expression_71 {x0 x1 : Int} (h0 : x0 = 1) (h1 : x1 = x0) : ¬ x1 = 0 := by omega
theorem la_expression_72 {x0 x1 x2 x3 : Int} (h0 : x0 < x1) (h1 : x1 ≤ x2) (h2 : x3 = x0) : x3 < x2 := by omega
theorem la_expression_73 {x0 x1 x2 : Int} (h0 : x0 < x1) (h1 : x2 + 1 < x0) : x2 + 1 < x1 := by omega
theorem la_expression_74 {x0 : Int} : x0 = x0 := by omega
theorem la_expression_75 {x0 : Int} (h0 : x0 = 3) (h1 : x0 = 2 ∨ x0 = 7) : False := by omega
theorem la_expression_76 {x0 x1 x2 : Int} (h0 : x0 + 1 ≤ x1) : x2 - x1 < x2 - x0 := by omega
set_option maxHeartbeats 8000000 in
theorem f_expression : ∀ (d : Int) (p1 : Int) (S : sv_S), sm_ok S → (0 ≤ p1 ∧ p1 ≤ 1) → (0 ≤ (S 1020 0) ∧ (S 1020 0) < (S 1012 0) ∧ sm_TK (S 6) (S 8) (S 9) (S 10) (S 1012 0) ∧ 0 ≤ (S 1021 0) ∧ 0 ≤ (S 1004 0) ∧ (S 1004 0) ≤ 4000 ∧ 0 ≤ (S 1007 0) ∧ (S 1007 0) ≤ 90 ∧ sm_LN (S 4) (S 1007 0) ∧ sm_WF (S 11) (S 12) (S 13) (S 1100001) (S 1100002) (S 1100005) (S 1100003) (S 1100004) (S 1024 0) (S 1007 0) (S 1009 0) (S 1032 0) ∧ sm_HD (S 23) (S 24) (S 1032 0) (S 1007 0) ∧ sm_HD (S 25) (fun _ : Int => (S 1042 0)) 1 (S 1007 0) ∧ 0 ≤ (S 1043 0) ∧ (S 1043 0) < (S 1032 0) ∧ (S 1032 0) ≤ 1 + (S 1020 0) ∧ 0 ≤ (S 1031 0) ∧ (S 1031 0) ≤ 100 ∧ 0 ≤ (S 1044 0) ∧ (S 1044 0) ≤ 30 ∧ 0 ≤ (S 1045 0) ∧ (S 1045 0) ≤ 30 ∧ 0 ≤ (S 1024 0) ∧ ((S 1021 0) = 0 → 0 ≤ (S 1023 0) ∧ (S 1023 0) ≤ 20 ∧ (S 1031 0) ≤ 3 * (S 1023 0) + 5 ∧ (S 1024 0) ≤ 2 * (S 1020 0) ∧ (S 1044 0) ≤ (S 1023 0) ∧ (S 1045 0) ≤ (S 1023 0)) ∧ (S 1021 0) = 0) → (30 * (20 - (S 1023 0)) + 26) = d → (0 ≤ p1 ∧ p1 ≤ 1) ∧ (0 ≤ (S 1020 0) ∧ (S 1020 0) < (S 1012 0) ∧ sm_TK (S 6) (S 8) (S 9) (S 10) (S 1012 0) ∧ 0 ≤ (S 1021 0) ∧ 0 ≤ (S 1004 0) ∧ (S 1004 0) ≤ 4000 ∧ 0 ≤ (S 1007 0) ∧ (S 1007 0) ≤ 90 ∧ sm_LN (S 4) (S 1007 0) ∧ sm_WF (S 11) (S 12) (S 13) (S 1100001) (S 1100002) (S 1100005) (S 1100003) (S 1100004) (S 1024 0) (S 1007 0) (S 1009 0) (S 1032 0) ∧ sm_HD (S 23) (S 24) (S 1032 0) (S 1007 0) ∧ sm_HD (S 25) (fun _ : Int => (S 1042 0)) 1 (S 1007 0) ∧ 0 ≤ (S 1043 0) ∧ (S 1043 0) < (S 1032 0) ∧ (S 1032 0) ≤ 1 + (S 1020 0) ∧ 0 ≤ (S 1031 0) ∧ (S 1031 0) ≤ 100 ∧ 0 ≤ (S 1044 0) ∧ (S 1044 0) ≤ 30 ∧ 0 ≤ (S 1045 0) ∧ (S 1045 0) ≤ 30 ∧ 0 ≤ (S 1024 0) ∧ ((S 1021 0) = 0 → 0 ≤ (S 1023 0) ∧ (S 1023 0) ≤ 20 ∧ (S 1031 0) ≤ 3 * (S 1023 0) + 5 ∧ (S 1024 0) ≤ 2 * (S 1020 0) ∧ (S 1044 0) ≤ (S 1023 0) ∧ (S 1045 0) ≤ (S 1023 0))) ∧ (0 ≤ ((if 0 < (S 1021 0) then 12 else 30 * (20 - (S 1023 0)) + 25)) ∧ ((if 0 < (S 1021 0) then 12 else 30 * (20 - (S 1023 0)) + 25)) < d) ∧ (0 ≤ ((if 0 < (S 1021 0) then 12 else 30 * (20 - (S 1023 0)) + 25)) ∧ ((if 0 < (S 1021 0) then 12 else 30 * (20 - (S 1023 0)) + 25)) + 1 ≤ (30 * (20 - (S 1023 0)) + 26)) ∧ (∀ r9 : Int, sv_R r9 → ∀ g5 : sv_S, ((S 1020 0) ≤ (g5 1020 0) ∧ (g5 1020 0) < (S 1012 0) ∧ 0 ≤ (g5 1021 0) ∧ (0 < (S 1021 0) → 0 < (g5 1021 0)) ∧ (S 1007 0) ≤ (g5 1007 0) ∧ (g5 1007 0) ≤ 90 ∧ sm_LN (g5 4) (g5 1007 0) ∧ ((S 1009 0) = 1 → (g5 1009 0) = 1) ∧ sm_WF (g5 11) (g5 12) (g5 13) (g5 1100001) (g5 1100002) (g5 1100005) (g5 1100003) (g5 1100004) (g5 1024 0) (g5 1007 0) (g5 1009 0) (g5 1032 0) ∧ sm_PS (S 11) (S 1100001) (S 1100002) (S 1100005) (S 1100003) (S 1100004) (g5 11) (g5 1100001) (g5 1100002) (g5 1100005) (g5 1100003) (g5 1100004) (S 1024 0) ∧ sm_KL (S 15) (S 16) (g5 15) (g5 16) (S 1031 0) ∧ sm_HD (g5 23) (g5 24) (g5 1032 0) (g5 1007 0) ∧ sm_HD (g5 25) (fun _ : Int => (g5 1042 0)) 1 (g5 1007 0) ∧ (g5 1031 0) = (S 1031 0) ∧ (g5 1043 0) = (S 1043 0) ∧ (g5 1044 0) = (S 1044 0) ∧ (g5 1045 0) = (S 1045 0) ∧ (S 1032 0) ≤ (g5 1032 0) ∧ (g5 1032 0) ≤ 1 + (g5 1020 0) ∧ (S 1024 0) ≤ (g5 1024 0) ∧ ((g5 1021 0) = 0 → (g5 1023 0) = (S 1023 0) ∧ (g5 1024 0) + 1 ≤ (S 1024 0) + 2 * ((g5 1020 0) - (S 1020 0))) ∧ (0 < (g5 1021 0) → (g5 1024 0) ≤ (S 1024 0) + 2 * ((g5 1020 0) - (S 1020 0)) + 2 * ((if 0 < (S 1021 0) then 12 else 30 * (20 - (S 1023 0)) + 25))) ∧ -1 ≤ r9 ∧ r9 < 12000 ∧ ((g5 1021 0) = 0 → (S 1020 0) < (g5 1020 0) ∧ 1 ≤ (S 6 (S 1020 0)) ∧ sm_ex (g5 1100001) (g5 1100002) (g5 1100005) (g5 1024 0) 1 r9 (17 * (20 - (S 1023 0)) + 17) (20 - (S 1023 0)) ∧ ((g5 11 r9) = 2 ∨ (g5 11 r9) = 7 → (g5 1100002 r9) ≤ 17 * (20 - (S 1023 0)) + 2)) ∧ (0 < (S 1021 0) → (g5 1020 0) = (S 1020 0) ∧ (g5 1024 0) = (S 1024 0))) → ((0 ≤ (g5 1020 0) ∧ (g5 1020 0) < (S 1012 0) ∧ sm_TK (S 6) (S 8) (S 9) (S 10) (S 1012 0) ∧ 0 ≤ (g5 1021 0) ∧ 0 ≤ (S 1004 0) ∧ (S 1004 0) ≤ 4000 ∧ 0 ≤ (g5 1007 0) ∧ (g5 1007 0) ≤ 90 ∧ sm_LN (g5 4) (g5 1007 0) ∧ sm_WF (g5 11) (g5 12) (g5 13) (g5 1100001) (g5 1100002) (g5 1100005) (g5 1100003) (g5 1100004) (g5 1024 0) (g5 1007 0) (g5 1009 0) (g5 1032 0) ∧ sm_HD (g5 23) (g5 24) (g5 1032 0) (g5 1007 0) ∧ sm_HD (g5 25) (fun _ : Int => (g5 1042 0)) 1 (g5 1007 0) ∧ 0 ≤ (g5 1043 0) ∧ (g5 1043 0) < (g5 1032 0) ∧ (g5 1032 0) ≤ 1 + (g5 1020 0) ∧ 0 ≤ (g5 1031 0) ∧ (g5 1031 0) ≤ 100 ∧ 0 ≤ (g5 1044 0) ∧ (g5 1044 0) ≤ 30 ∧ 0 ≤ (g5 1045 0) ∧ (g5 1045 0) ≤ 30 ∧ 0 ≤ (g5 1024 0) ∧ ((g5 1021 0) = 0 → 0 ≤ (g5 1023 0) ∧ (g5 1023 0) ≤ 20 ∧ (g5 1031 0) ≤ 3 * (g5 1023 0) + 5 ∧ (g5 1024 0) ≤ 2 * (g5 1020 0) ∧ (g5 1044 0) ≤ (g5 1023 0) ∧ (g5 1045 0) ≤ (g5 1023 0)) ∧ (S 1020 0) ≤ (g5 1020 0) ∧ (g5 1020 0) < (S 1012 0) ∧ 0 ≤ (g5 1021 0) ∧ (0 < (S 1021 0) → 0 < (g5 1021 0)) ∧ (S 1007 0) ≤ (g5 1007 0) ∧ (g5 1007 0) ≤ 90 ∧ sm_LN (g5 4) (g5 1007 0) ∧ ((S 1009 0) = 1 → (g5 1009 0) = 1) ∧ sm_WF (g5 11) (g5 12) (g5 13) (g5 1100001) (g5 1100002) (g5 1100005) (g5 1100003) (g5 1100004) (g5 1024 0) (g5 1007 0) (g5 1009 0) (g5 1032 0) ∧ sm_PS (S 11) (S 1100001) (S 1100002) (S 1100005) (S 1100003) (S 1100004) (g5 11) (g5 1100001) (g5 1100002) (g5 1100005) (g5 1100003) (g5 1100004) (S 1024 0) ∧ sm_KL (S 15) (S 16) (g5 15) (g5 16) (S 1031 0) ∧ sm_HD (g5 23) (g5 24) (g5 1032 0) (g5 1007 0) ∧ sm_HD (g5 25) (fun _ : Int => (g5 1042 0)) 1 (g5 1007 0) ∧ (g5 1031 0) = (S 1031 0) ∧ (g5 1043 0) = (S 1043 0) ∧ (g5 1044 0) = (S 1044 0) ∧ (g5 1045 0) = (S 1045 0) ∧ (S 1032 0) ≤ (g5 1032 0) ∧ (g5 1032 0) ≤ 1 + (g5 1020 0) ∧ (S 1024 0) ≤ (g5 1024 0) ∧ ((g5 1021 0) = 0 → (g5 1023 0) = (S 1023 0) ∧ (g5 1024 0) + 1 ≤ (S 1024 0) + 2 * ((g5 1020 0) - (S 1020 0))) ∧ (0 < (g5 1021 0) → (g5 1024 0) ≤ (S 1024 0) + 2 * ((g5 1020 0) - (S 1020 0)) + 2 * (30 * (20 - (S 1023 0)) + 26)) ∧ -1 ≤ r9 ∧ r9 < 12000 ∧ ((g5 1021 0) = 0 → (S 1020 0) < (g5 1020 0) ∧ 1 ≤ (S 6 (S 1020 0)) ∧ sm_ex (g5 1100001) (g5 1100002) (g5 1100005) (g5 1024 0) 1 r9 (17 * (20 - (S 1023 0)) + 17) (20 - (S 1023 0)) ∧ ((g5 11 r9) = 2 ∨ (g5 11 r9) = 7 → (g5 1100002 r9) ≤ 17 * (20 - (S 1023 0)) + 2))) ∧ (∀ l2_12 : Int, sv_R l2_12 → ∀ g11 : sv_S, (0 ≤ (g11 1020 0) ∧ (g11 1020 0) < (S 1012 0) ∧ sm_TK (S 6) (S 8) (S 9) (S 10) (S 1012 0) ∧ 0 ≤ (g11 1021 0) ∧ 0 ≤ (S 1004 0) ∧ (S 1004 0) ≤ 4000 ∧ 0 ≤ (g11 1007 0) ∧ (g11 1007 0) ≤ 90 ∧ sm_LN (g11 4) (g11 1007 0) ∧ sm_WF (g11 11) (g11 12) (g11 13) (g11 1100001) (g11 1100002) (g11 1100005) (g11 1100003) (g11 1100004) (g11 1024 0) (g11 1007 0) (g11 1009 0) (g11 1032 0) ∧ sm_HD (g11 23) (g11 24) (g11 1032 0) (g11 1007 0) ∧ sm_HD (g11 25) (fun _ : Int => (g11 1042 0)) 1 (g11 1007 0) ∧ 0 ≤ (g11 1043 0) ∧ (g11 1043 0) < (g11 1032 0) ∧ (g11 1032 0) ≤ 1 + (g11 1020 0) ∧ 0 ≤ (g11 1031 0) ∧ (g11 1031 0) ≤ 100 ∧ 0 ≤ (g11 1044 0) ∧ (g11 1044 0) ≤ 30 ∧ 0 ≤ (g11 1045 0) ∧ (g11 1045 0) ≤ 30 ∧ 0 ≤ (g11 1024 0) ∧ ((g11 1021 0) = 0 → 0 ≤ (g11 1023 0) ∧ (g11 1023 0) ≤ 20 ∧ (g11 1031 0) ≤ 3 * (g11 1023 0) + 5 ∧ (g11 1024 0) ≤ 2 * (g11 1020 0) ∧ (g11 1044 0) ≤ (g11 1023 0) ∧ (g11 1045 0) ≤ (g11 1023 0)) ∧ (S 1020 0) ≤ (g11 1020 0) ∧ (g11 1020 0) < (S 1012 0) ∧ 0 ≤ (g11 1021 0) ∧ (0 < (S 1021 0) → 0 < (g11 1021 0)) ∧ (S 1007 0) ≤ (g11 1007 0) ∧ (g11 1007 0) ≤ 90 ∧ sm_LN (g11 4) (g11 1007 0) ∧ ((S 1009 0) = 1 → (g11 1009 0) = 1) ∧ sm_WF (g11 11) (g11 12) (g11 13) (g11 1100001) (g11 1100002) (g11 1100005) (g11 1100003) (g11 1100004) (g11 1024 0) (g11 1007 0) (g11 1009 0) (g11 1032 0) ∧ sm_PS (S 11) (S 1100001) (S 1100002) (S 1100005) (S 1100003) (S 1100004) (g11 11) (g11 1100001) (g11 1100002) (g11 1100005) (g11 1100003) (g11 1100004) (S 1024 0) ∧ sm_KL (S 15) (S 16) (g11 15) (g11 16) (S 1031 0) ∧ sm_HD (g11 23) (g11 24) (g11 1032 0) (g11 1007 0) ∧ sm_HD (g11 25) (fun _ : Int => (g11 1042 0)) 1 (g11 1007 0) ∧ (g11 1031 0) = (S 1031 0) ∧ (g11 1043 0) = (S 1043 0) ∧ (g11 1044 0) = (S 1044 0) ∧ (g11 1045 0) = (S 1045 0) ∧ (S 1032 0) ≤ (g11 1032 0) ∧ (g11 1032 0) ≤ 1 + (g11 1020 0) ∧ (S 1024 0) ≤ (g11 1024 0) ∧ ((g11 1021 0) = 0 → (g11 1023 0) = (S 1023 0) ∧ (g11 1024 0) + 1 ≤ (S 1024 0) + 2 * ((g11 1020 0) - (S 1020 0))) ∧ (0 < (g11 1021 0) → (g11 1024 0) ≤ (S 1024 0) + 2 * ((g11 1020 0) - (S 1020 0)) + 2 * (30 * (20 - (S 1023 0)) + 26)) ∧ -1 ≤ l2_12 ∧ l2_12 < 12000 ∧ ((g11 1021 0) = 0 → (S 1020 0) < (g11 1020 0) ∧ 1 ≤ (S 6 (S 1020 0)) ∧ sm_ex (g11 1100001) (g11 1100002) (g11 1100005) (g11 1024 0) 1 l2_12 (17 * (20 - (S 1023 0)) + 17) (20 - (S 1023 0)) ∧ ((g11 11 l2_12) = 2 ∨ (g11 11 l2_12) = 7 → (g11 1100002 l2_12) ≤ 17 * (20 - (S 1023 0)) + 2))) → (0 ≤ (S 1012 0) - (g11 1020 0)) ∧ (sv_R (g11 1021 0) → (((¬ (g11 1021 0) = (0 : Int)) → ((S 1020 0) ≤ (g11 1020 0) ∧ (g11 1020 0) < (S 1012 0) ∧ 0 ≤ (g11 1021 0) ∧ (0 < (S 1021 0) → 0 < (g11 1021 0)) ∧ (S 1007 0) ≤ (g11 1007 0) ∧ (g11 1007 0) ≤ 90 ∧ sm_LN (g11 4) (g11 1007 0) ∧ ((S 1009 0) = 1 → (g11 1009 0) = 1) ∧ sm_WF (g11 11) (g11 12) (g11 13) (g11 1100001) (g11 1100002) (g11 1100005) (g11 1100003) (g11 1100004) (g11 1024 0) (g11 1007 0) (g11 1009 0) (g11 1032 0) ∧ sm_PS (S 11) (S 1100001) (S 1100002) (S 1100005) (S 1100003) (S 1100004) (g11 11) (g11 1100001) (g11 1100002) (g11 1100005) (g11 1100003) (g11 1100004) (S 1024 0) ∧ sm_KL (S 15) (S 16) (g11 15) (g11 16) (S 1031 0) ∧ sm_HD (g11 23) (g11 24) (g11 1032 0) (g11 1007 0) ∧ sm_HD (g11 25) (fun _ : Int => (g11 1042 0)) 1 (g11 1007 0) ∧ (g11 1031 0) = (S 1031 0) ∧ (g11 1043 0) = (S 1043 0) ∧ (g11 1044 0) = (S 1044 0) ∧ (g11 1045 0) = (S 1045 0) ∧ (S 1032 0) ≤ (g11 1032 0) ∧ (g11 1032 0) ≤ 1 + (g11 1020 0) ∧ (S 1024 0) ≤ (g11 1024 0) ∧ ((g11 1021 0) = 0 → (g11 1023 0) = (S 1023 0) ∧ (g11 1024 0) + 1 ≤ (S 1024 0) + 2 * ((g11 1020 0) - (S 1020 0))) ∧ (0 < (g11 1021 0) → (g11 1024 0) ≤ (S 1024 0) + 2 * ((g11 1020 0) - (S 1020 0)) + 2 * (30 * (20 - (S 1023 0)) + 26)) ∧ -1 ≤ l2_12 ∧ l2_12 < 12000 ∧ ((g11 1021 0) = 0 → (S 1020 0) < (g11 1020 0) ∧ 1 ≤ (S 6 (S 1020 0)) ∧ sm_ex (g11 1100001) (g11 1100002) (g11 1100005) (g11 1024 0) 1 l2_12 (17 * (20 - (S 1023 0)) + 17) (20 - (S 1023 0)) ∧ ((g11 11 l2_12) = 2 ∨ (g11 11 l2_12) = 7 → (g11 1100002 l2_12) ≤ 17 * (20 - (S 1023 0)) + 2)))) ∧ ((¬ (¬ (g11 1021 0) = (0 : Int))) → (0 ≤ (g11 1020 0) ∧ (g11 1020 0) ≤ 4000) ∧ (0 + 1 ≤ (30 * (20 - (S 1023 0)) + 26)) ∧ (((¬ ((S 6 (g11 1020 0)) = 5 ∧ (S 7 (g11 1020 0)) = (32 : Int))) → ((S 1020 0) ≤ (g11 1020 0) ∧ (g11 1020 0) < (S 1012 0) ∧ 0 ≤ (g11 1021 0) ∧ (0 < (S 1021 0) → 0 < (g11 1021 0)) ∧ (S 1007 0) ≤ (g11 1007 0) ∧ (g11 1007 0) ≤ 90 ∧ sm_LN (g11 4) (g11 1007 0) ∧ ((S 1009 0) = 1 → (g11 1009 0) = 1) ∧ sm_WF (g11 11) (g11 12) (g11 13) (g11 1100001) (g11 1100002) (g11 1100005) (g11 1100003) (g11 1100004) (g11 1024 0) (g11 1007 0) (g11 1009 0) (g11 1032 0) ∧ sm_PS (S 11) (S 1100001) (S 1100002) (S 1100005) (S 1100003) (S 1100004) (g11 11) (g11 1100001) (g11 1100002) (g11 1100005) (g11 1100003) (g11 1100004) (S 1024 0) ∧ sm_KL (S 15) (S 16) (g11 15) (g11 16) (S 1031 0) ∧ sm_HD (g11 23) (g11 24) (g11 1032 0) (g11 1007 0) ∧ sm_HD (g11 25) (fun _ : Int => (g11 1042 0)) 1 (g11 1007 0) ∧ (g11 1031 0) = (S 1031 0) ∧ (g11 1043 0) = (S 1043 0) ∧ (g11 1044 0) = (S 1044 0) ∧ (g11 1045 0) = (S 1045 0) ∧ (S 1032 0) ≤ (g11 1032 0) ∧ (g11 1032 0) ≤ 1 + (g11 1020 0) ∧ (S 1024 0) ≤ (g11 1024 0) ∧ ((g11 1021 0) = 0 → (g11 1023 0) = (S 1023 0) ∧ (g11 1024 0) + 1 ≤ (S 1024 0) + 2 * ((g11 1020 0) - (S 1020 0))) ∧ (0 < (g11 1021 0) → (g11 1024 0) ≤ (S 1024 0) + 2 * ((g11 1020 0) - (S 1020 0)) + 2 * (30 * (20 - (S 1023 0)) + 26)) ∧ -1 ≤ l2_12 ∧ l2_12 < 12000 ∧ ((g11 1021 0) = 0 → (S 1020 0) < (g11 1020 0) ∧ 1 ≤ (S 6 (S 1020 0)) ∧ sm_ex (g11 1100001) (g11 1100002) (g11 1100005) (g11 1024 0) 1 l2_12 (17 * (20 - (S 1023 0)) + 17) (20 - (S 1023 0)) ∧ ((g11 11 l2_12) = 2 ∨ (g11 11 l2_12) = 7 → (g11 1100002 l2_12) ≤ 17 * (20 - (S 1023 0)) + 2)))) ∧ (((S 6 (g11 1020 0)) = 5 ∧ (S 7 (g11 1020 0)) = (32 : Int)) → (sv_R (g11 1020 0) → (sv_R ((g11 1020 0) + (1 : Int))) ∧ (0 ≤ ((g11 1020 0) + (1 : Int)) ∧ ((g11 1020 0) + (1 : Int)) < (S 1012 0) ∧ sm_TK (S 6) (S 8) (S 9) (S 10) (S 1012 0) ∧ 0 ≤ (g11 1021 0) ∧ 0 ≤ (S 1004 0) ∧ (S 1004 0) ≤ 4000 ∧ 0 ≤ (g11 1007 0) ∧ (g11 1007 0) ≤ 90 ∧ sm_LN (g11 4) (g11 1007 0) ∧ sm_WF (g11 11) (g11 12) (g11 13) (g11 1100001) (g11 1100002) (g11 1100005) (g11 1100003) (g11 1100004) (g11 1024 0) (g11 1007 0) (g11 1009 0) (g11 1032 0) ∧ sm_HD (g11 23) (g11 24) (g11 1032 0) (g11 1007 0) ∧ sm_HD (g11 25) (fun _ : Int => (g11 1042 0)) 1 (g11 1007 0) ∧ 0 ≤ (g11 1043 0) ∧ (g11 1043 0) < (g11 1032 0) ∧ (g11 1032 0) ≤ 1 + ((g11 1020 0) + (1 : Int)) ∧ 0 ≤ (g11 1031 0) ∧ (g11 1031 0) ≤ 100 ∧ 0 ≤ (g11 1044 0) ∧ (g11 1044 0) ≤ 30 ∧ 0 ≤ (g11 1045 0) ∧ (g11 1045 0) ≤ 30 ∧ 0 ≤ (g11 1024 0) ∧ ((g11 1021 0) = 0 → 0 ≤ (g11 1023 0) ∧ (g11 1023 0) ≤ 20 ∧ (g11 1031 0) ≤ 3 * (g11 1023 0) + 5 ∧ (g11 1024 0) ≤ 2 * ((g11 1020 0) + (1 : Int)) ∧ (g11 1044 0) ≤ (g11 1023 0) ∧ (g11 1045 0) ≤ (g11 1023 0))) ∧ (0 ≤ ((if 0 < (g11 1021 0) then 12 else 30 * (20 - (g11 1023 0)) + 25)) ∧ ((if 0 < (g11 1021 0) then 12 else 30 * (20 - (g11 1023 0)) + 25)) < d) ∧ (0 ≤ ((if 0 < (g11 1021 0) then 12 else 30 * (20 - (g11 1023 0)) + 25)) ∧ ((if 0 < (g11 1021 0) then 12 else 30 * (20 - (g11 1023 0)) + 25)) + 1 ≤ (30 * (20 - (S 1023 0)) + 26)) ∧ (∀ r33 : Int, sv_R r33 → ∀ g29 : sv_S, (((g11 1020 0) + (1 : Int)) ≤ (g29 1020 0) ∧ (g29 1020 0) < (S 1012 0) ∧ 0 ≤ (g29 1021 0) ∧ (0 < (g11 1021 0) → 0 < (g29 1021 0)) ∧ (g11 1007 0) ≤ (g29 1007 0) ∧ (g29 1007 0) ≤ 90 ∧ sm_LN (g29 4) (g29 1007 0) ∧ ((g11 1009 0) = 1 → (g29 1009 0) = 1) ∧ sm_WF (g29 11) (g29 12) (g29 13) (g29 1100001) (g29 1100002) (g29 1100005) (g29 1100003) (g29 1100004) (g29 1024 0) (g29 1007 0) (g29 1009 0) (g29 1032 0) ∧ sm_PS (g11 11) (g11 1100001) (g11 1100002) (g11 1100005) (g11 1100003) (g11 1100004) (g29 11) (g29 1100001) (g29 1100002) (g29 1100005) (g29 1100003) (g29 1100004) (g11 1024 0) ∧ sm_KL (g11 15) (g11 16) (g29 15) (g29 16) (g11 1031 0) ∧ sm_HD (g29 23) (g29 24) (g29 1032 0) (g29 1007 0) ∧ sm_HD (g29 25) (fun _ : Int => (g29 1042 0)) 1 (g29 1007 0) ∧ (g29 1031 0) = (g11 1031 0) ∧ (g29 1043 0) = (g11 1043 0) ∧ (g29 1044 0) = (g11 1044 0) ∧ (g29 1045 0) = (g11 1045 0) ∧ (g11 1032 0) ≤ (g29 1032 0) ∧ (g29 1032 0) ≤ 1 + (g29 1020 0) ∧ (g11 1024 0) ≤ (g29 1024 0) ∧ ((g29 1021 0) = 0 → (g29 1023 0) = (g11 1023 0) ∧ (g29 1024 0) + 1 ≤ (g11 1024 0) + 2 * ((g29 1020 0) - ((g11 1020 0) + (1 : Int)))) ∧ (0 < (g29 1021 0) → (g29 1024 0) ≤ (g11 1024 0) + 2 * ((g29 1020 0) - ((g11 1020 0) + (1 : Int))) + 2 * ((if 0 < (g11 1021 0) then 12 else 30 * (20 - (g11 1023 0)) + 25))) ∧ -1 ≤ r33 ∧ r33 < 12000 ∧ ((g29 1021 0) = 0 → ((g11 1020 0) + (1 : Int)) < (g29 1020 0) ∧ 1 ≤ (S 6 ((g11 1020 0) + (1 : Int))) ∧ sm_ex (g29 1100001) (g29 1100002) (g29 1100005) (g29 1024 0) 1 r33 (17 * (20 - (g11 1023 0)) + 17) (20 - (g11 1023 0)) ∧ ((g29 11 r33) = 2 ∨ (g29 11 r33) = 7 → (g29 1100002 r33) ≤ 17 * (20 - (g11 1023 0)) + 2)) ∧ (0 < (g11 1021 0) → (g29 1020 0) = ((g11 1020 0) + (1 : Int)) ∧ (g29 1024 0) = (g11 1024 0))) → (0 ≤ (g29 1024 0) ∧ (g29 1024 0) < 12000) ∧ (∀ r41 : Int, sv_R r41 → ∀ g37 : sv_S, (r41 = (g29 1024 0) ∧ (g37 1024 0) = (g29 1024 0) + 1 ∧ (g37 11 r41) = (3 : Int) ∧ (g37 12 (5 * r41)) = l2_12 ∧ (g37 12 (5 * r41 + 1)) = r33 ∧ (g37 12 (5 * r41 + 2)) = (0 : Int) ∧ (g37 12 (5 * r41 + 3)) = -1 ∧ (g37 12 (5 * r41 + 4)) = -1 ∧ (g37 13 r41) = -1 ∧ (g37 14 r41) = 0 ∧ (∀ n : Int, n < (g29 1024 0) → (g37 14 n) = (g29 14 n)) ∧ (sm_WF (g29 11) (g29 12) (g29 13) (g29 1100001) (g29 1100002) (g29 1100005) (g29 1100003) (g29 1100004) (g29 1024 0) (g29 1007 0) (g29 1009 0) (g29 1032 0) → sm_WF (g37 11) (g37 12) (g37 13) (g29 1100001) (g29 1100002) (g29 1100005) (g29 1100003) (g29 1100004) (g37 1024 0) (g29 1007 0) (g29 1009 0) (g29 1032 0) ∧ (g29 1100001 r41) = 0) ∧ sm_PS (g29 11) (g29 1100001) (g29 1100002) (g29 1100005) (g29 1100003) (g29 1100004) (g37 11) (g29 1100001) (g29 1100002) (g29 1100005) (g29 1100003) (g29 1100004) (g29 1024 0)) → (sv_R ((if (g29 1021 0) = 0 then 1 else 0))) ∧ (sv_R ((17 * (20 - (S 1023 0)) + 17))) ∧ (sv_R ((20 - (S 1023 0)))) ∧ ((sm_WF (g37 11) (g37 12) (g37 13) (g29 1100001) (g29 1100002) (g29 1100005) (g29 1100003) (g29 1100004) (g37 1024 0) (g29 1007 0) (g29 1009 0) (g29 1032 0) → (g29 1100001 r41) = 0 → 0 ≤ r41 → r41 < (g37 1024 0) → (g37 13 r41) = -1 → ((g29 1021 0) = 0 → (g37 11 r41) = 3 ∧ sm_ex (g29 1100001) (g29 1100002) (g29 1100005) (g37 1024 0) 1 (g37 12 (5 * r41)) (17 * (20 - (S 1023 0)) + 17) (20 - (S 1023 0)) ∧ (g37 12 (5 * r41)) < r41 ∧ sm_ex (g29 1100001) (g29 1100002) (g29 1100005) (g37 1024 0) 1 (g37 12 (5 * r41 + 1)) (17 * (20 - (S 1023 0)) + 17) (20 - (S 1023 0))) → sm_WF (g37 11) (g37 12) (g37 13) (fun i' : Int => if i' = r41 then ((if (g29 1021 0) = 0 then 1 else 0)) else (g29 1100001) i') (fun i' : Int => if i' = r41 then ((17 * (20 - (S 1023 0)) + 17)) else (g29 1100002) i') (fun i' : Int => if i' = r41 then ((20 - (S 1023 0))) else (g29 1100005) i') (fun i' : Int => if i' = r41 then (0 : Int) else (g29 1100003) i') (fun i' : Int => if i' = r41 then (0 : Int) else (g29 1100004) i') (g37 1024 0) (g29 1007 0) (g29 1009 0) (g29 1032 0) ∧ sm_PS (g37 11) (g29 1100001) (g29 1100002) (g29 1100005) (g29 1100003) (g29 1100004) (g37 11) (fun i' : Int => if i' = r41 then ((if (g29 1021 0) = 0 then 1 else 0)) else (g29 1100001) i') (fun i' : Int => if i' = r41 then ((17 * (20 - (S 1023 0)) + 17)) else (g29 1100002) i') (fun i' : Int => if i' = r41 then ((20 - (S 1023 0))) else (g29 1100005) i') (fun i' : Int => if i' = r41 then (0 : Int) else (g29 1100003) i') (fun i' : Int => if i' = r41 then (0 : Int) else (g29 1100004) i') (g37 1024 0)) → ((0 ≤ (g29 1020 0) ∧ (g29 1020 0) < (S 1012 0) ∧ sm_TK (S 6) (S 8) (S 9) (S 10) (S 1012 0) ∧ 0 ≤ (g29 1021 0) ∧ 0 ≤ (S 1004 0) ∧ (S 1004 0) ≤ 4000 ∧ 0 ≤ (g29 1007 0) ∧ (g29 1007 0) ≤ 90 ∧ sm_LN (g29 4) (g29 1007 0) ∧ sm_WF (g37 11) (g37 12) (g37 13) (fun i' : Int => if i' = r41 then ((if (g29 1021 0) = 0 then 1 else 0)) else (g29 1100001) i') (fun i' : Int => if i' = r41 then ((17 * (20 - (S 1023 0)) + 17)) else (g29 1100002) i') (fun i' : Int => if i' = r41 then ((20 - (S 1023 0))) else (g29 1100005) i') (fun i' : Int => if i' = r41 then (0 : Int) else (g29 1100003) i') (fun i' : Int => if i' = r41 then (0 : Int) else (g29 1100004) i') (g37 1024 0) (g29 1007 0) (g29 1009 0) (g29 1032 0) ∧ sm_HD (g29 23) (g29 24) (g29 1032 0) (g29 1007 0) ∧ sm_HD (g29 25) (fun _ : Int => (g29 1042 0)) 1 (g29 1007 0) ∧ 0 ≤ (g29 1043 0) ∧ (g29 1043 0) < (g29 1032 0) ∧ (g29 1032 0) ≤ 1 + (g29 1020 0) ∧ 0 ≤ (g29 1031 0) ∧ (g29 1031 0) ≤ 100 ∧ 0 ≤ (g29 1044 0) ∧ (g29 1044 0) ≤ 30 ∧ 0 ≤ (g29 1045 0) ∧ (g29 1045 0) ≤ 30 ∧ 0 ≤ (g37 1024 0) ∧ ((g29 1021 0) = 0 → 0 ≤ (g29 1023 0) ∧ (g29 1023 0) ≤ 20 ∧ (g29 1031 0) ≤ 3 * (g29 1023 0) + 5 ∧ (g37 1024 0) ≤ 2 * (g29 1020 0) ∧ (g29 1044 0) ≤ (g29 1023 0) ∧ (g29 1045 0) ≤ (g29 1023 0)) ∧ (S 1020 0) ≤ (g29 1020 0) ∧ (g29 1020 0) < (S 1012 0) ∧ 0 ≤ (g29 1021 0) ∧ (0 < (S 1021 0) → 0 < (g29 1021 0)) ∧ (S 1007 0) ≤ (g29 1007 0) ∧ (g29 1007 0) ≤ 90 ∧ sm_LN (g29 4) (g29 1007 0) ∧ ((S 1009 0) = 1 → (g29 1009 0) = 1) ∧ sm_WF (g37 11) (g37 12) (g37 13) (fun i' : Int => if i' = r41 then ((if (g29 1021 0) = 0 then 1 else 0)) else (g29 1100001) i') (fun i' : Int => if i' = r41 then ((17 * (20 - (S 1023 0)) + 17)) else (g29 1100002) i') (fun i' : Int => if i' = r41 then ((20 - (S 1023 0))) else (g29 1100005) i') (fun i' : Int => if i' = r41 then (0 : Int) else (g29 1100003) i') (fun i' : Int => if i' = r41 then (0 : Int) else (g29 1100004) i') (g37 1024 0) (g29 1007 0) (g29 1009 0) (g29 1032 0) ∧ sm_PS (S 11) (S 1100001) (S 1100002) (S 1100005) (S 1100003) (S 1100004) (g37 11) (fun i' : Int => if i' = r41 then ((if (g29 1021 0) = 0 then 1 else 0)) else (g29 1100001) i') (fun i' : Int => if i' = r41 then ((17 * (20 - (S 1023 0)) + 17)) else (g29 1100002) i') (fun i' : Int => if i' = r41 then ((20 - (S 1023 0))) else (g29 1100005) i') (fun i' : Int => if i' = r41 then (0 : Int) else (g29 1100003) i') (fun i' : Int => if i' = r41 then (0 : Int) else (g29 1100004) i') (S 1024 0) ∧ sm_KL (S 15) (S 16) (g29 15) (g29 16) (S 1031 0) ∧ sm_HD (g29 23) (g29 24) (g29 1032 0) (g29 1007 0) ∧ sm_HD (g29 25) (fun _ : Int => (g29 1042 0)) 1 (g29 1007 0) ∧ (g29 1031 0) = (S 1031 0) ∧ (g29 1043 0) = (S 1043 0) ∧ (g29 1044 0) = (S 1044 0) ∧ (g29 1045 0) = (S 1045 0) ∧ (S 1032 0) ≤ (g29 1032 0) ∧ (g29 1032 0) ≤ 1 + (g29 1020 0) ∧ (S 1024 0) ≤ (g37 1024 0) ∧ ((g29 1021 0) = 0 → (g29 1023 0) = (S 1023 0) ∧ (g37 1024 0) + 1 ≤ (S 1024 0) + 2 * ((g29 1020 0) - (S 1020 0))) ∧ (0 < (g29 1021 0) → (g37 1024 0) ≤ (S 1024 0) + 2 * ((g29 1020 0) - (S 1020 0)) + 2 * (30 * (20 - (S 1023 0)) + 26)) ∧ -1 ≤ r41 ∧ r41 < 12000 ∧ ((g29 1021 0) = 0 → (S 1020 0) < (g29 1020 0) ∧ 1 ≤ (S 6 (S 1020 0)) ∧ sm_ex (fun i' : Int => if i' = r41 then ((if (g29 1021 0) = 0 then 1 else 0)) else (g29 1100001) i') (fun i' : Int => if i' = r41 then ((17 * (20 - (S 1023 0)) + 17)) else (g29 1100002) i') (fun i' : Int => if i' = r41 then ((20 - (S 1023 0))) else (g29 1100005) i') (g37 1024 0) 1 r41 (17 * (20 - (S 1023 0)) + 17) (20 - (S 1023 0)) ∧ ((g37 11 r41) = 2 ∨ (g37 11 r41) = 7 → (if r41 = r41 then ((17 * (20 - (S 1023 0)) + 17)) else (g29 1100002 r41)) ≤ 17 * (20 - (S 1023 0)) + 2))) ∧ ((S 1012 0) - (g29 1020 0)) < ((S 1012 0) - (g11 1020 0))))))))))))))) := by
  intro d
  intro p1
  intro S
  intro h1_
  rintro ⟨h2_, h3_⟩
  rintro ⟨h4_, ⟨h5_, ⟨h6_, ⟨h7_, ⟨h8_, ⟨h9_, ⟨h10_, ⟨h11_, ⟨h12_, ⟨h13_, ⟨h14_, ⟨h15_, ⟨h16_, ⟨h17_, ⟨h18_, ⟨h19_, ⟨h20_, ⟨h21_, ⟨h22_, ⟨h23_, ⟨h24_, ⟨h25_, ⟨h26_, h27_⟩⟩⟩⟩⟩⟩⟩⟩⟩⟩⟩⟩⟩⟩⟩⟩⟩⟩⟩⟩⟩⟩⟩
  intro h28_
  refine ⟨(la_expression_0 h2_ h3_), ?_⟩
  refine ⟨⟨h4_, ⟨h5_, ⟨h6_, ⟨h7_, ⟨h8_, ⟨h9_, ⟨h10_, ⟨h11_, ⟨h12_, ⟨h13_, ⟨h14_, ⟨h15_, (la_expression_1 h16_ h17_ h18_ h19_ h20_ h21_ h22_ h23_ h24_ h25_ h26_)⟩⟩⟩⟩⟩⟩⟩⟩⟩⟩⟩⟩, ?_⟩
  refine ⟨?_, ?_⟩
  · skip
    refine ⟨?_, ?_⟩
    · skip
      have e29_ : (if 0 < S 1021 0 then 12 else 30 * (20 - S 1023 0) + 25 : Int) = 30 * (20 - S 1023 0) + 25 := if_neg (la_expression_2 h27_)
      exact (la_expression_3 h7_ h26_ h27_ e29_)
    have e30_ : (if 0 < S 1021 0 then 12 else 30 * (20 - S 1023 0) + 25 : Int) = 30 * (20 - S 1023 0) + 25 := if_neg (la_expression_2 h27_)
    exact (la_expression_4 h28_ e30_)
  refine ⟨?_, ?_⟩
  · skip
    refine ⟨?_, ?_⟩
    · skip
      have e31_ : (if 0 < S 1021 0 then 12 else 30 * (20 - S 1023 0) + 25 : Int) = 30 * (20 - S 1023 0) + 25 := if_neg (la_expression_2 h27_)
      exact (la_expression_3 h7_ h26_ h27_ e31_)
    have e32_ : (if 0 < S 1021 0 then 12 else 30 * (20 - S 1023 0) + 25 : Int) = 30 * (20 - S 1023 0) + 25 := if_neg (la_expression_2 h27_)
    exact (la_expression_5 e32_)
  intro r9
  intro h33_
  intro g5
  rintro ⟨h34_, ⟨h35_, ⟨h36_, ⟨h37_, ⟨h38_, ⟨h39_, ⟨h40_, ⟨h41_, ⟨h42_, ⟨h43_, ⟨h44_, ⟨h45_, ⟨h46_, ⟨h47_, ⟨h48_, ⟨h49_, ⟨h50_, ⟨h51_, ⟨h52_, ⟨h53_, ⟨h54_, ⟨h55_, ⟨h56_, ⟨h57_, ⟨h58_, h59_⟩⟩⟩⟩⟩⟩⟩⟩⟩⟩⟩⟩⟩⟩⟩⟩⟩⟩⟩⟩⟩⟩⟩⟩⟩
  have e60_ : (if 0 < S 1021 0 then 12 else 30 * (20 - S 1023 0) + 25 : Int) = 30 * (20 - S 1023 0) + 25 := if_neg (la_expression_2 h27_)
  refine ⟨⟨(la_expression_6 h4_ h34_), ⟨h35_, ⟨h6_, ⟨h36_, ⟨h8_, ⟨h9_, ⟨(la_expression_6 h10_ h38_), ⟨h39_, ⟨h40_, ⟨h42_, ⟨h45_, ⟨h46_, ⟨(la_expression_7 h16_ h48_), ⟨(la_expression_8 h17_ h48_ h51_), ⟨h52_, ⟨(la_expression_7 h19_ h47_), ⟨(la_expression_9 h20_ h47_), ⟨(la_expression_7 h21_ h49_), ⟨(la_expression_10 h22_ h49_), ⟨(la_expression_7 h23_ h50_), ⟨(la_expression_10 h24_ h50_), ⟨(la_expression_6 h25_ h53_), ⟨(la_expression_11 h7_ h26_ h27_ h47_ h49_ h50_ h54_), ⟨h34_, ⟨h35_, ⟨h36_, ⟨h37_, ⟨h38_, ⟨h39_, ⟨h40_, ⟨h41_, ⟨h42_, ⟨h43_, ⟨h44_, ⟨h45_, ⟨h46_, ⟨h47_, ⟨h48_, ⟨h49_, ⟨h50_, ⟨h51_, ⟨h52_, ⟨h53_, ⟨h54_, ⟨(la_expression_12 h7_ h26_ h27_ h54_ h55_ e60_), ⟨h56_, ⟨h57_, h58_⟩⟩⟩⟩⟩⟩⟩⟩⟩⟩⟩⟩⟩⟩⟩⟩⟩⟩⟩⟩⟩⟩⟩⟩⟩⟩⟩⟩⟩⟩⟩⟩⟩⟩⟩⟩⟩⟩⟩⟩⟩⟩⟩⟩⟩⟩⟩, ?_⟩
  intro l2_12
  intro h61_
  intro g11
  rintro ⟨h62_, ⟨h63_, ⟨h64_, ⟨h65_, ⟨h66_, ⟨h67_, ⟨h68_, ⟨h69_, ⟨h70_, ⟨h71_, ⟨h72_, ⟨h73_, ⟨h74_, ⟨h75_, ⟨h76_, ⟨h77_, ⟨h78_, ⟨h79_, ⟨h80_, ⟨h81_, ⟨h82_, ⟨h83_, ⟨h84_, ⟨h85_, ⟨h86_, ⟨h87_, ⟨h88_, ⟨h89_, ⟨h90_, ⟨h91_, ⟨h92_, ⟨h93_, ⟨h94_, ⟨h95_, ⟨h96_, ⟨h97_, ⟨h98_, ⟨h99_, ⟨h100_, ⟨h101_, ⟨h102_, ⟨h103_, ⟨h104_, ⟨h105_, ⟨h106_, ⟨h107_, ⟨h108_, h109_⟩⟩⟩⟩⟩⟩⟩⟩⟩⟩⟩⟩⟩⟩⟩⟩⟩⟩⟩⟩⟩⟩⟩⟩⟩⟩⟩⟩⟩⟩⟩⟩⟩⟩⟩⟩⟩⟩⟩⟩⟩⟩⟩⟩⟩⟩⟩
  refine ⟨(la_expression_13 h63_), ?_⟩
  intro h110_
  refine ⟨?_, ?_⟩
  · skip
    intro h111_
    refine ⟨h85_, ?_⟩
    refine ⟨h63_, ?_⟩
    refine ⟨h65_, ?_⟩
    refine ⟨h88_, ?_⟩
    refine ⟨h89_, ?_⟩
    refine ⟨h69_, ?_⟩
    refine ⟨h70_, ?_⟩
    refine ⟨h92_, ?_⟩
    refine ⟨h71_, ?_⟩
    refine ⟨h94_, ?_⟩
    refine ⟨h95_, ?_⟩
    refine ⟨h72_, ?_⟩
    refine ⟨h73_, ?_⟩
    refine ⟨h98_, ?_⟩
    refine ⟨h99_, ?_⟩
    refine ⟨h100_, ?_⟩
    refine ⟨h101_, ?_⟩
    refine ⟨h102_, ?_⟩
    refine ⟨h76_, ?_⟩
    refine ⟨h104_, ?_⟩
    refine ⟨h105_, ?_⟩
    refine ⟨h106_, ?_⟩
    refine ⟨h107_, ?_⟩
    refine ⟨h108_, ?_⟩
    intro h112_
    refine ⟨(la_expression_14 h65_ h104_ h105_ h112_), ?_⟩
    refine ⟨?_, ?_⟩
    · skip
      obtain ⟨h113_, ⟨h114_, ⟨h115_, h116_⟩⟩⟩ := (h58_ (la_expression_15 h36_ h65_ h111_ h112_))
      exact h114_
    refine ⟨?_, ?_⟩
    · skip
      exact ((la_expression_17 h65_ h111_ h112_)).elim
    intro h117_
    exact (la_expression_18 h65_ h111_ h112_)
  intro h118_
  obtain ⟨h119_, ⟨h120_, ⟨h121_, h122_⟩⟩⟩ := (h109_ (la_expression_19 h65_ h118_))
  refine ⟨(la_expression_20 h4_ (sm_TK_t h6_).2 h63_ h119_), ?_⟩
  refine ⟨(la_expression_21 h7_ h26_ h27_), ?_⟩
  refine ⟨?_, ?_⟩
  · skip
    intro h123_
    refine ⟨h85_, ?_⟩
    refine ⟨h63_, ?_⟩
    refine ⟨h65_, ?_⟩
    refine ⟨h88_, ?_⟩
    refine ⟨h89_, ?_⟩
    refine ⟨h69_, ?_⟩
    refine ⟨h70_, ?_⟩
    refine ⟨h92_, ?_⟩
    refine ⟨h71_, ?_⟩
    refine ⟨h94_, ?_⟩
    refine ⟨h95_, ?_⟩
    refine ⟨h72_, ?_⟩
    refine ⟨h73_, ?_⟩
    refine ⟨h98_, ?_⟩
    refine ⟨h99_, ?_⟩
    refine ⟨h100_, ?_⟩
    refine ⟨h101_, ?_⟩
    refine ⟨h102_, ?_⟩
    refine ⟨h76_, ?_⟩
    refine ⟨h104_, ?_⟩
    refine ⟨h105_, ?_⟩
    refine ⟨h106_, ?_⟩
    refine ⟨h107_, ?_⟩
    refine ⟨h108_, ?_⟩
    intro h124_
    refine ⟨h119_, ?_⟩
    refine ⟨h120_, ?_⟩
    refine ⟨h121_, ?_⟩
    intro h125_
    exact (la_expression_22 h37_ h122_ h125_)
  rintro ⟨h126_, h127_⟩
  intro h128_
  refine ⟨(la_expression_23 (sm_TK_t h6_).2 h62_ h63_), ?_⟩
  refine ⟨?_, ?_⟩
  · skip
    refine ⟨(la_expression_24 h4_ h119_), ?_⟩
    refine ⟨?_, ?_⟩
    · skip
      exact (la_expression_25 h126_ (sm_TK_go h6_ (g11 1020 0) h62_ h63_))
    refine ⟨h6_, ?_⟩
    refine ⟨h65_, ?_⟩
    refine ⟨h8_, ?_⟩
    refine ⟨h9_, ?_⟩
    refine ⟨h68_, ?_⟩
    refine ⟨h69_, ?_⟩
    refine ⟨h70_, ?_⟩
    refine ⟨h71_, ?_⟩
    refine ⟨h72_, ?_⟩
    refine ⟨h73_, ?_⟩
    refine ⟨h74_, ?_⟩
    refine ⟨h75_, ?_⟩
    refine ⟨(la_expression_26 h76_), ?_⟩
    refine ⟨h77_, ?_⟩
    refine ⟨h78_, ?_⟩
    refine ⟨h79_, ?_⟩
    refine ⟨h80_, ?_⟩
    refine ⟨h81_, ?_⟩
    refine ⟨h82_, ?_⟩
    refine ⟨h83_, ?_⟩
    intro h129_
    refine ⟨(la_expression_27 h65_ h84_ h118_), ?_⟩
    refine ⟨(la_expression_28 h65_ h84_ h118_), ?_⟩
    refine ⟨(la_expression_29 h65_ h84_ h118_), ?_⟩
    refine ⟨(la_expression_30 h65_ h84_ h118_), ?_⟩
    refine ⟨(la_expression_31 h65_ h84_ h118_), ?_⟩
    exact (la_expression_32 h65_ h84_ h118_)
  refine ⟨?_, ?_⟩
  · skip
    refine ⟨?_, ?_⟩
    · skip
      have e130_ : (if 0 < g11 1021 0 then 12 else 30 * (20 - g11 1023 0) + 25 : Int) = 30 * (20 - g11 1023 0) + 25 := if_neg (la_expression_33 h118_)
      exact (la_expression_34 h65_ h84_ h118_ e130_)
    have e131_ : (if 0 < g11 1021 0 then 12 else 30 * (20 - g11 1023 0) + 25 : Int) = 30 * (20 - g11 1023 0) + 25 := if_neg (la_expression_33 h118_)
    exact (la_expression_35 h28_ h65_ h105_ h118_ e131_)
  refine ⟨?_, ?_⟩
  · skip
    refine ⟨?_, ?_⟩
    · skip
      have e132_ : (if 0 < g11 1021 0 then 12 else 30 * (20 - g11 1023 0) + 25 : Int) = 30 * (20 - g11 1023 0) + 25 := if_neg (la_expression_33 h118_)
      exact (la_expression_34 h65_ h84_ h118_ e132_)
    have e133_ : (if 0 < g11 1021 0 then 12 else 30 * (20 - g11 1023 0) + 25 : Int) = 30 * (20 - g11 1023 0) + 25 := if_neg (la_expression_33 h118_)
    exact (la_expression_36 h65_ h105_ h118_ e133_)
  intro r33
  intro h134_
  intro g29
  rintro ⟨h135_, ⟨h136_, ⟨h137_, ⟨h138_, ⟨h139_, ⟨h140_, ⟨h141_, ⟨h142_, ⟨h143_, ⟨h144_, ⟨h145_, ⟨h146_, ⟨h147_, ⟨h148_, ⟨h149_, ⟨h150_, ⟨h151_, ⟨h152_, ⟨h153_, ⟨h154_, ⟨h155_, ⟨h156_, ⟨h157_, ⟨h158_, ⟨h159_, h160_⟩⟩⟩⟩⟩⟩⟩⟩⟩⟩⟩⟩⟩⟩⟩⟩⟩⟩⟩⟩⟩⟩⟩⟩⟩
  have e161_ : (if 0 < g11 1021 0 then 12 else 30 * (20 - g11 1023 0) + 25 : Int) = 30 * (20 - g11 1023 0) + 25 := if_neg (la_expression_33 h118_)
  refine ⟨(la_expression_37 (sm_TK_t h6_).2 h65_ h84_ h118_ (sm_ex_e h121_).1 (sm_ex_e h121_).2.1 h136_ h137_ h154_ h155_ h156_ e161_), ?_⟩
  intro r41
  intro h162_
  intro g37
  rintro ⟨h163_, ⟨h164_, ⟨h165_, ⟨h166_, ⟨h167_, ⟨h168_, ⟨h169_, ⟨h170_, ⟨h171_, ⟨h172_, ⟨h173_, ⟨h174_, h175_⟩⟩⟩⟩⟩⟩⟩⟩⟩⟩⟩⟩
  obtain ⟨h176_, h177_⟩ := (h174_ h143_)
  refine ⟨?_, ?_⟩
  · skip
    have h178_ := (h173_ r41)
    by_cases c179_ : g29 1021 0 = 0
    · skip
      have e180_ : (if g29 1021 0 = 0 then 1 else 0 : Int) = 1 := if_pos c179_
      obtain ⟨h181_, ⟨h182_, ⟨h183_, h184_⟩⟩⟩ := (h159_ c179_)
      exact (la_expression_38 e180_)
    · skip
      have e185_ : (if g29 1021 0 = 0 then 1 else 0 : Int) = 0 := if_neg c179_
      exact (la_expression_39 e185_)
  refine ⟨(la_expression_40 h7_ h26_ h27_), ?_⟩
  refine ⟨(la_expression_41 h7_ h26_ h27_ e60_), ?_⟩
  intro h186_
  have h187_ := (h186_ h176_)
  have h188_ := (h187_ h177_)
  have h189_ := (h188_ (la_expression_42 (sm_ex_e h121_).1 (sm_ex_e h121_).2.1 h154_ h163_))
  have h190_ := (h189_ (la_expression_43 h163_ h164_))
  have h191_ := (h190_ h171_)
  have h197_ : g29 1021 0 = 0 → g37 11 r41 = 3 ∧ sm_ex (g29 1100001) (g29 1100002) (g29 1100005) (g37 1024 0) 1 (g37 12 (5 * r41)) (17 * (20 - S 1023 0) + 17) (20 - S 1023 0) ∧ g37 12 (5 * r41) < r41 ∧ sm_ex (g29 1100001) (g29 1100002) (g29 1100005) (g37 1024 0) 1 (g37 12 (5 * r41 + 1)) (17 * (20 - S 1023 0) + 17) (20 - S 1023 0) := by
    intro h192_
    obtain ⟨h193_, ⟨h194_, ⟨h195_, h196_⟩⟩⟩ := (h159_ h192_)
    refine ⟨h165_, ?_⟩
    refine ⟨(sm_ex_eq h166_ (sm_ex_N (sm_ex_w (sm_ex_ps (sm_PS_le h144_ (Int.le_refl _)) h121_ (by decide)) (Int.le_refl _) (Int.le_refl _)) (la_expression_44 h154_ h164_))), ?_⟩
    refine ⟨(la_expression_45 (sm_ex_e h121_).2.1 h154_ h163_ h166_), ?_⟩
    exact (sm_ex_eq h167_ (sm_ex_N (sm_ex_w h195_ (la_expression_46 h65_ h105_ h118_) (la_expression_47 h65_ h105_ h118_)) (la_expression_48 h164_)))
  obtain ⟨h198_, h199_⟩ := (h191_ h197_)
  refine ⟨?_, ?_⟩
  · skip
    refine ⟨(la_expression_49 h4_ h119_ h135_), ?_⟩
    refine ⟨h136_, ?_⟩
    refine ⟨h6_, ?_⟩
    refine ⟨h137_, ?_⟩
    refine ⟨h8_, ?_⟩
    refine ⟨h9_, ?_⟩
    refine ⟨(la_expression_6 h68_ h139_), ?_⟩
    refine ⟨h140_, ?_⟩
    refine ⟨h141_, ?_⟩
    refine ⟨h198_, ?_⟩
    refine ⟨h146_, ?_⟩
    refine ⟨h147_, ?_⟩
    refine ⟨(la_expression_7 h74_ h149_), ?_⟩
    refine ⟨(la_expression_8 h75_ h149_ h152_), ?_⟩
    refine ⟨h153_, ?_⟩
    refine ⟨(la_expression_7 h77_ h148_), ?_⟩
    refine ⟨(la_expression_9 h78_ h148_), ?_⟩
    refine ⟨(la_expression_7 h79_ h150_), ?_⟩
    refine ⟨(la_expression_10 h80_ h150_), ?_⟩
    refine ⟨(la_expression_7 h81_ h151_), ?_⟩
    refine ⟨(la_expression_10 h82_ h151_), ?_⟩
    refine ⟨(la_expression_50 (sm_ex_e h121_).1 (sm_ex_e h121_).2.1 h154_ h164_), ?_⟩
    refine ⟨(la_expression_51 h7_ h26_ h27_ h65_ h84_ h105_ h118_ h148_ h150_ h151_ h155_ h164_), ?_⟩
    refine ⟨(la_expression_52 h119_ h135_), ?_⟩
    refine ⟨h136_, ?_⟩
    refine ⟨h137_, ?_⟩
    refine ⟨(la_expression_53 h27_), ?_⟩
    refine ⟨(la_expression_54 h89_ h139_), ?_⟩
    refine ⟨h140_, ?_⟩
    refine ⟨h141_, ?_⟩
    refine ⟨(la_expression_55 h92_ h142_), ?_⟩
    refine ⟨h198_, ?_⟩
    refine ⟨(sm_PS_tr (sm_PS_le h94_ (Int.le_refl _)) (sm_PS_tr (sm_PS_le h144_ h104_) (sm_PS_tr (sm_PS_le h175_ (la_expression_54 h104_ h154_)) (sm_PS_le h199_ (la_expression_56 h104_ h154_ h164_)) (Int.le_refl _)) (Int.le_refl _)) (Int.le_refl _)), ?_⟩
    refine ⟨(sm_KL_tr (sm_KL_le h95_ (Int.le_refl _)) (sm_KL_le h145_ (la_expression_57 h98_)) (Int.le_refl _)), ?_⟩
    refine ⟨h146_, ?_⟩
    refine ⟨h147_, ?_⟩
    refine ⟨(la_expression_58 h98_ h148_), ?_⟩
    refine ⟨(la_expression_58 h99_ h149_), ?_⟩
    refine ⟨(la_expression_58 h100_ h150_), ?_⟩
    refine ⟨(la_expression_58 h101_ h151_), ?_⟩
    refine ⟨(la_expression_54 h102_ h152_), ?_⟩
    refine ⟨h153_, ?_⟩
    refine ⟨(la_expression_56 h104_ h154_ h164_), ?_⟩
    refine ⟨(la_expression_59 h65_ h105_ h118_ h155_ h164_), ?_⟩
    refine ⟨(la_expression_60 h7_ h26_ h27_ h65_ h105_ h118_ h155_ h156_ e161_ h164_), ?_⟩
    refine ⟨(la_expression_61 (sm_ex_e h121_).1 (sm_ex_e h121_).2.1 h154_ h163_), ?_⟩
    refine ⟨(la_expression_62 (sm_TK_t h6_).2 h65_ h84_ h118_ h136_ h137_ h155_ h156_ e161_ h163_), ?_⟩
    intro h200_
    obtain ⟨h201_, ⟨h202_, ⟨h203_, h204_⟩⟩⟩ := (h159_ h200_)
    refine ⟨(la_expression_63 h119_ h201_), ?_⟩
    refine ⟨h120_, ?_⟩
    refine ⟨(sm_ex_if (la_expression_64 h163_ (sm_ex_e h203_).1 (sm_ex_e h203_).2.1) (la_expression_43 h163_ h164_) (if_pos h200_) la_expression_65 la_expression_66), ?_⟩
    intro h205_
    have h206_ := (h173_ r41)
    have e207_ : (if r41 = r41 then 17 * (20 - S 1023 0) + 17 else g29 1100002 r41 : Int) = 17 * (20 - S 1023 0) + 17 := if_pos la_expression_74
    exact ((la_expression_75 h165_ h205_)).elim
  exact (la_expression_76 h135_)
set_option maxRecDepth 8000 in
set_option maxHeartbeats 2000000 in
theorem s_expression (d : Int) (h0 : 0 ≤ d) (IH : ∀ d' : Int, 0 ≤ d' → d' < d → P_P d') : T_expression d := by
  intro p1 S hok hp1 hpre hd
  have h := f_expression d p1 S hok hp1 hpre hd
  have hM := sm_h43
  show sv_T sm_XS sm_cs sm_L sm_sh (30 * (20 - (S 1023 0)) + 26).toNat (q_expression p1 S) 43 0 [(0, .ref 0), (1, sv_I p1)] [] S
  refine sv_aload_n hM dX12_expression_0 rfl rfl ?_
  refine sv_iload_n hM dX12_expression_1 rfl rfl ?_
  obtain ⟨o1, h⟩ := h
  obtain ⟨o2, h⟩ := h
  obtain ⟨o3, h⟩ := h
  obtain ⟨o4, h⟩ := h
  refine sv_callV hM dX12_expression_2 sm_iv_442 (by decide) (sm_a0 _) rfl rfl (Nat.le_of_ble_eq_true rfl) sm_h47 (Nat.le_of_ble_eq_true rfl) (Nat.le_of_ble_eq_true rfl) (F' := (((if 0 < (S 1021 0) then 12 else 30 * (20 - (S 1023 0)) + 25))).toNat) (sv_Fe o4) rfl ((IH ((if 0 < (S 1021 0) then 12 else 30 * (20 - (S 1023 0)) + 25)) o3.1 o3.2).2.2.1 p1 S hok o1 o2 rfl) (fun v S1 hq => ?_)
  obtain ⟨r9, rfl, hr9, ok6, md7, hp8⟩ := hq
  obtain ⟨g5, rfl⟩ : ∃ g, S1 = sv_sts S [1020, 1021, 1022, 1023, 5, 1011, 3, 4, 1007, 1009, 11, 12, 13, 14, 1024, 15, 16, 1031, 1032, 17, 18, 19, 20, 21, 22, 23, 24, 25, 1042, 1043, 1044, 1045, 1100001, 1100002, 1100005, 1100003, 1100004] g := ⟨_, md7.eq⟩
  show sv_T sm_XS sm_cs sm_L sm_sh (30 * (20 - (S 1023 0)) + 26).toNat (q_expression p1 S) 43 5 [(0, .ref 0), (1, sv_I p1)] [sv_I r9] (sv_sts S [1020, 1021, 1022, 1023, 5, 1011, 3, 4, 1007, 1009, 11, 12, 13, 14, 1024, 15, 16, 1031, 1032, 17, 18, 19, 20, 21, 22, 23, 24, 25, 1042, 1043, 1044, 1045, 1100001, 1100002, 1100005, 1100003, 1100004] g5)
  have md10 : sv_mod [1020, 1021, 1022, 1023, 5, 1011, 3, 4, 1007, 1009, 11, 12, 13, 14, 1024, 15, 16, 1031, 1032, 17, 18, 19, 20, 21, 22, 23, 24, 25, 1042, 1043, 1044, 1045, 1100001, 1100002, 1100005, 1100003, 1100004] S (sv_sts S [1020, 1021, 1022, 1023, 5, 1011, 3, 4, 1007, 1009, 11, 12, 13, 14, 1024, 15, 16, 1031, 1032, 17, 18, 19, 20, 21, 22, 23, 24, 25, 1042, 1043, 1044, 1045, 1100001, 1100002, 1100005, 1100003, 1100004] g5) := sv_mod.sts sv_mod.rf (by decide)
  have h := h r9 hr9 g5 hp8
  refine sv_istore_n hM dX12_expression_5 (by decide) rfl ?_
  show sv_T sm_XS sm_cs sm_L sm_sh (30 * (20 - (S 1023 0)) + 26).toNat (q_expression p1 S) 43 6 [(0, .ref 0), (1, sv_I p1), (2, sv_I r9)] [] (sv_sts S [1020, 1021, 1022, 1023, 5, 1011, 3, 4, 1007, 1009, 11, 12, 13, 14, 1024, 15, 16, 1031, 1032, 17, 18, 19, 20, 21, 22, 23, 24, 25, 1042, 1043, 1044, 1045, 1100001, 1100002, 1100005, 1100003, 1100004] g5)
  obtain ⟨hin14, h⟩ := h
  have hJ : ∀ a : Int × sv_S, (sv_R a.1 ∧ sm_ok (sv_sts (sv_sts S [1020, 1021, 1022, 1023, 5, 1011, 3, 4, 1007, 1009, 11, 12, 13, 14, 1024, 15, 16, 1031, 1032, 17, 18, 19, 20, 21, 22, 23, 24, 25, 1042, 1043, 1044, 1045, 1100001, 1100002, 1100005, 1100003, 1100004] g5) [1020, 1021, 1022, 1023, 5, 1011, 3, 4, 1007, 1009, 11, 12, 13, 14, 1024, 15, 16, 1031, 1032, 17, 18, 19, 20, 21, 22, 23, 24, 25, 1042, 1043, 1044, 1045, 1100001, 1100002, 1100005, 1100003, 1100004] a.2) ∧ (0 ≤ (a.2 1020 0) ∧ (a.2 1020 0) < (S 1012 0) ∧ sm_TK (S 6) (S 8) (S 9) (S 10) (S 1012 0) ∧ 0 ≤ (a.2 1021 0) ∧ 0 ≤ (S 1004 0) ∧ (S 1004 0) ≤ 4000 ∧ 0 ≤ (a.2 1007 0) ∧ (a.2 1007 0) ≤ 90 ∧ sm_LN (a.2 4) (a.2 1007 0) ∧ sm_WF (a.2 11) (a.2 12) (a.2 13) (a.2 1100001) (a.2 1100002) (a.2 1100005) (a.2 1100003) (a.2 1100004) (a.2 1024 0) (a.2 1007 0) (a.2 1009 0) (a.2 1032 0) ∧ sm_HD (a.2 23) (a.2 24) (a.2 1032 0) (a.2 1007 0) ∧ sm_HD (a.2 25) (fun _ : Int => (a.2 1042 0)) 1 (a.2 1007 0) ∧ 0 ≤ (a.2 1043 0) ∧ (a.2 1043 0) < (a.2 1032 0) ∧ (a.2 1032 0) ≤ 1 + (a.2 1020 0) ∧ 0 ≤ (a.2 1031 0) ∧ (a.2 1031 0) ≤ 100 ∧ 0 ≤ (a.2 1044 0) ∧ (a.2 1044 0) ≤ 30 ∧ 0 ≤ (a.2 1045 0) ∧ (a.2 1045 0) ≤ 30 ∧ 0 ≤ (a.2 1024 0) ∧ ((a.2 1021 0) = 0 → 0 ≤ (a.2 1023 0) ∧ (a.2 1023 0) ≤ 20 ∧ (a.2 1031 0) ≤ 3 * (a.2 1023 0) + 5 ∧ (a.2 1024 0) ≤ 2 * (a.2 1020 0) ∧ (a.2 1044 0) ≤ (a.2 1023 0) ∧ (a.2 1045 0) ≤ (a.2 1023 0)) ∧ (S 1020 0) ≤ (a.2 1020 0) ∧ (a.2 1020 0) < (S 1012 0) ∧ 0 ≤ (a.2 1021 0) ∧ (0 < (S 1021 0) → 0 < (a.2 1021 0)) ∧ (S 1007 0) ≤ (a.2 1007 0) ∧ (a.2 1007 0) ≤ 90 ∧ sm_LN (a.2 4) (a.2 1007 0) ∧ ((S 1009 0) = 1 → (a.2 1009 0) = 1) ∧ sm_WF (a.2 11) (a.2 12) (a.2 13) (a.2 1100001) (a.2 1100002) (a.2 1100005) (a.2 1100003) (a.2 1100004) (a.2 1024 0) (a.2 1007 0) (a.2 1009 0) (a.2 1032 0) ∧ sm_PS (S 11) (S 1100001) (S 1100002) (S 1100005) (S 1100003) (S 1100004) (a.2 11) (a.2 1100001) (a.2 1100002) (a.2 1100005) (a.2 1100003) (a.2 1100004) (S 1024 0) ∧ sm_KL (S 15) (S 16) (a.2 15) (a.2 16) (S 1031 0) ∧ sm_HD (a.2 23) (a.2 24) (a.2 1032 0) (a.2 1007 0) ∧ sm_HD (a.2 25) (fun _ : Int => (a.2 1042 0)) 1 (a.2 1007 0) ∧ (a.2 1031 0) = (S 1031 0) ∧ (a.2 1043 0) = (S 1043 0) ∧ (a.2 1044 0) = (S 1044 0) ∧ (a.2 1045 0) = (S 1045 0) ∧ (S 1032 0) ≤ (a.2 1032 0) ∧ (a.2 1032 0) ≤ 1 + (a.2 1020 0) ∧ (S 1024 0) ≤ (a.2 1024 0) ∧ ((a.2 1021 0) = 0 → (a.2 1023 0) = (S 1023 0) ∧ (a.2 1024 0) + 1 ≤ (S 1024 0) + 2 * ((a.2 1020 0) - (S 1020 0))) ∧ (0 < (a.2 1021 0) → (a.2 1024 0) ≤ (S 1024 0) + 2 * ((a.2 1020 0) - (S 1020 0)) + 2 * (30 * (20 - (S 1023 0)) + 26)) ∧ -1 ≤ a.1 ∧ a.1 < 12000 ∧ ((a.2 1021 0) = 0 → (S 1020 0) < (a.2 1020 0) ∧ 1 ≤ (S 6 (S 1020 0)) ∧ sm_ex (a.2 1100001) (a.2 1100002) (a.2 1100005) (a.2 1024 0) 1 a.1 (17 * (20 - (S 1023 0)) + 17) (20 - (S 1023 0)) ∧ ((a.2 11 a.1) = 2 ∨ (a.2 11 a.1) = 7 → (a.2 1100002 a.1) ≤ 17 * (20 - (S 1023 0)) + 2)))) → sv_T sm_XS sm_cs sm_L sm_sh (30 * (20 - (S 1023 0)) + 26).toNat (q_expression p1 S) 43 6 [(0, .ref 0), (1, sv_I p1), (2, sv_I a.1)] [] (sv_sts (sv_sts S [1020, 1021, 1022, 1023, 5, 1011, 3, 4, 1007, 1009, 11, 12, 13, 14, 1024, 15, 16, 1031, 1032, 17, 18, 19, 20, 21, 22, 23, 24, 25, 1042, 1043, 1044, 1045, 1100001, 1100002, 1100005, 1100003, 1100004] g5) [1020, 1021, 1022, 1023, 5, 1011, 3, 4, 1007, 1009, 11, 12, 13, 14, 1024, 15, 16, 1031, 1032, 17, 18, 19, 20, 21, 22, 23, 24, 25, 1042, 1043, 1044, 1045, 1100001, 1100002, 1100005, 1100003, 1100004] a.2) := by
    refine sv_loop (α := Int × sv_S) (fun a => sv_R a.1 ∧ sm_ok (sv_sts (sv_sts S [1020, 1021, 1022, 1023, 5, 1011, 3, 4, 1007, 1009, 11, 12, 13, 14, 1024, 15, 16, 1031, 1032, 17, 18, 19, 20, 21, 22, 23, 24, 25, 1042, 1043, 1044, 1045, 1100001, 1100002, 1100005, 1100003, 1100004] g5) [1020, 1021, 1022, 1023, 5, 1011, 3, 4, 1007, 1009, 11, 12, 13, 14, 1024, 15, 16, 1031, 1032, 17, 18, 19, 20, 21, 22, 23, 24, 25, 1042, 1043, 1044, 1045, 1100001, 1100002, 1100005, 1100003, 1100004] a.2) ∧ (0 ≤ (a.2 1020 0) ∧ (a.2 1020 0) < (S 1012 0) ∧ sm_TK (S 6) (S 8) (S 9) (S 10) (S 1012 0) ∧ 0 ≤ (a.2 1021 0) ∧ 0 ≤ (S 1004 0) ∧ (S 1004 0) ≤ 4000 ∧ 0 ≤ (a.2 1007 0) ∧ (a.2 1007 0) ≤ 90 ∧ sm_LN (a.2 4) (a.2 1007 0) ∧ sm_WF (a.2 11) (a.2 12) (a.2 13) (a.2 1100001) (a.2 1100002) (a.2 1100005) (a.2 1100003) (a.2 1100004) (a.2 1024 0) (a.2 1007 0) (a.2 1009 0) (a.2 1032 0) ∧ sm_HD (a.2 23) (a.2 24) (a.2 1032 0) (a.2 1007 0) ∧ sm_HD (a.2 25) (fun _ : Int => (a.2 1042 0)) 1 (a.2 1007 0) ∧ 0 ≤ (a.2 1043 0) ∧ (a.2 1043 0) < (a.2 1032 0) ∧ (a.2 1032 0) ≤ 1 + (a.2 1020 0) ∧ 0 ≤ (a.2 1031 0) ∧ (a.2 1031 0) ≤ 100 ∧ 0 ≤ (a.2 1044 0) ∧ (a.2 1044 0) ≤ 30 ∧ 0 ≤ (a.2 1045 0) ∧ (a.2 1045 0) ≤ 30 ∧ 0 ≤ (a.2 1024 0) ∧ ((a.2 1021 0) = 0 → 0 ≤ (a.2 1023 0) ∧ (a.2 1023 0) ≤ 20 ∧ (a.2 1031 0) ≤ 3 * (a.2 1023 0) + 5 ∧ (a.2 1024 0) ≤ 2 * (a.2 1020 0) ∧ (a.2 1044 0) ≤ (a.2 1023 0) ∧ (a.2 1045 0) ≤ (a.2 1023 0)) ∧ (S 1020 0) ≤ (a.2 1020 0) ∧ (a.2 1020 0) < (S 1012 0) ∧ 0 ≤ (a.2 1021 0) ∧ (0 < (S 1021 0) → 0 < (a.2 1021 0)) ∧ (S 1007 0) ≤ (a.2 1007 0) ∧ (a.2 1007 0) ≤ 90 ∧ sm_LN (a.2 4) (a.2 1007 0) ∧ ((S 1009 0) = 1 → (a.2 1009 0) = 1) ∧ sm_WF (a.2 11) (a.2 12) (a.2 13) (a.2 1100001) (a.2 1100002) (a.2 1100005) (a.2 1100003) (a.2 1100004) (a.2 1024 0) (a.2 1007 0) (a.2 1009 0) (a.2 1032 0) ∧ sm_PS (S 11) (S 1100001) (S 1100002) (S 1100005) (S 1100003) (S 1100004) (a.2 11) (a.2 1100001) (a.2 1100002) (a.2 1100005) (a.2 1100003) (a.2 1100004) (S 1024 0) ∧ sm_KL (S 15) (S 16) (a.2 15) (a.2 16) (S 1031 0) ∧ sm_HD (a.2 23) (a.2 24) (a.2 1032 0) (a.2 1007 0) ∧ sm_HD (a.2 25) (fun _ : Int => (a.2 1042 0)) 1 (a.2 1007 0) ∧ (a.2 1031 0) = (S 1031 0) ∧ (a.2 1043 0) = (S 1043 0) ∧ (a.2 1044 0) = (S 1044 0) ∧ (a.2 1045 0) = (S 1045 0) ∧ (S 1032 0) ≤ (a.2 1032 0) ∧ (a.2 1032 0) ≤ 1 + (a.2 1020 0) ∧ (S 1024 0) ≤ (a.2 1024 0) ∧ ((a.2 1021 0) = 0 → (a.2 1023 0) = (S 1023 0) ∧ (a.2 1024 0) + 1 ≤ (S 1024 0) + 2 * ((a.2 1020 0) - (S 1020 0))) ∧ (0 < (a.2 1021 0) → (a.2 1024 0) ≤ (S 1024 0) + 2 * ((a.2 1020 0) - (S 1020 0)) + 2 * (30 * (20 - (S 1023 0)) + 26)) ∧ -1 ≤ a.1 ∧ a.1 < 12000 ∧ ((a.2 1021 0) = 0 → (S 1020 0) < (a.2 1020 0) ∧ 1 ≤ (S 6 (S 1020 0)) ∧ sm_ex (a.2 1100001) (a.2 1100002) (a.2 1100005) (a.2 1024 0) 1 a.1 (17 * (20 - (S 1023 0)) + 17) (20 - (S 1023 0)) ∧ ((a.2 11 a.1) = 2 ∨ (a.2 11 a.1) = 7 → (a.2 1100002 a.1) ≤ 17 * (20 - (S 1023 0)) + 2)))) (fun a => (S 1012 0) - (a.2 1020 0)) (fun a => sv_T sm_XS sm_cs sm_L sm_sh (30 * (20 - (S 1023 0)) + 26).toNat (q_expression p1 S) 43 6 [(0, .ref 0), (1, sv_I p1), (2, sv_I a.1)] [] (sv_sts (sv_sts S [1020, 1021, 1022, 1023, 5, 1011, 3, 4, 1007, 1009, 11, 12, 13, 14, 1024, 15, 16, 1031, 1032, 17, 18, 19, 20, 21, 22, 23, 24, 25, 1042, 1043, 1044, 1045, 1100001, 1100002, 1100005, 1100003, 1100004] g5) [1020, 1021, 1022, 1023, 5, 1011, 3, 4, 1007, 1009, 11, 12, 13, 14, 1024, 15, 16, 1031, 1032, 17, 18, 19, 20, 21, 22, 23, 24, 25, 1042, 1043, 1044, 1045, 1100001, 1100002, 1100005, 1100003, 1100004] a.2)) (fun a q => (h a.1 q.1 a.2 q.2.2).1) (fun a q ih13 => ?_)
    obtain ⟨l2_12, g11⟩ := a
    obtain ⟨hl2_12, ok15, hin14i⟩ := q
    have h := (h l2_12 hl2_12 g11 hin14i).2
    show sv_T sm_XS sm_cs sm_L sm_sh (30 * (20 - (S 1023 0)) + 26).toNat (q_expression p1 S) 43 6 [(0, .ref 0), (1, sv_I p1), (2, sv_I l2_12)] [] (sv_sts (sv_sts S [1020, 1021, 1022, 1023, 5, 1011, 3, 4, 1007, 1009, 11, 12, 13, 14, 1024, 15, 16, 1031, 1032, 17, 18, 19, 20, 21, 22, 23, 24, 25, 1042, 1043, 1044, 1045, 1100001, 1100002, 1100005, 1100003, 1100004] g5) [1020, 1021, 1022, 1023, 5, 1011, 3, 4, 1007, 1009, 11, 12, 13, 14, 1024, 15, 16, 1031, 1032, 17, 18, 19, 20, 21, 22, 23, 24, 25, 1042, 1043, 1044, 1045, 1100001, 1100002, 1100005, 1100003, 1100004] g11)
    have md16 : sv_mod [1020, 1021, 1022, 1023, 5, 1011, 3, 4, 1007, 1009, 11, 12, 13, 14, 1024, 15, 16, 1031, 1032, 17, 18, 19, 20, 21, 22, 23, 24, 25, 1042, 1043, 1044, 1045, 1100001, 1100002, 1100005, 1100003, 1100004] S (sv_sts (sv_sts S [1020, 1021, 1022, 1023, 5, 1011, 3, 4, 1007, 1009, 11, 12, 13, 14, 1024, 15, 16, 1031, 1032, 17, 18, 19, 20, 21, 22, 23, 24, 25, 1042, 1043, 1044, 1045, 1100001, 1100002, 1100005, 1100003, 1100004] g5) [1020, 1021, 1022, 1023, 5, 1011, 3, 4, 1007, 1009, 11, 12, 13, 14, 1024, 15, 16, 1031, 1032, 17, 18, 19, 20, 21, 22, 23, 24, 25, 1042, 1043, 1044, 1045, 1100001, 1100002, 1100005, 1100003, 1100004] g11) := sv_mod.sts md10 (by decide)
    have md17 : sv_mod [1020, 1021, 1022, 1023, 5, 1011, 3, 4, 1007, 1009, 11, 12, 13, 14, 1024, 15, 16, 1031, 1032, 17, 18, 19, 20, 21, 22, 23, 24, 25, 1042, 1043, 1044, 1045, 1100001, 1100002, 1100005, 1100003, 1100004] (sv_sts S [1020, 1021, 1022, 1023, 5, 1011, 3, 4, 1007, 1009, 11, 12, 13, 14, 1024, 15, 16, 1031, 1032, 17, 18, 19, 20, 21, 22, 23, 24, 25, 1042, 1043, 1044, 1045, 1100001, 1100002, 1100005, 1100003, 1100004] g5) (sv_sts (sv_sts S [1020, 1021, 1022, 1023, 5, 1011, 3, 4, 1007, 1009, 11, 12, 13, 14, 1024, 15, 16, 1031, 1032, 17, 18, 19, 20, 21, 22, 23, 24, 25, 1042, 1043, 1044, 1045, 1100001, 1100002, 1100005, 1100003, 1100004] g5) [1020, 1021, 1022, 1023, 5, 1011, 3, 4, 1007, 1009, 11, 12, 13, 14, 1024, 15, 16, 1031, 1032, 17, 18, 19, 20, 21, 22, 23, 24, 25, 1042, 1043, 1044, 1045, 1100001, 1100002, 1100005, 1100003, 1100004] g11) := sv_mod.sts sv_mod.rf (by decide)
    refine sv_aload_n hM dX12_expression_6 rfl rfl ?_
    have k18 : sv_R (g11 1021 0) := sm_okI ok15 sm_r1021 0
    have h := h k18
    refine sv_getI hM dX12_expression_7 sm_fl_389 (sm_a0 _) sm_k21 rfl (x := (g11 1021 0)) rfl ?_
    refine sv_cond_ne hM dX12_expression_10 k18 (t := 48) rfl rfl (fun hc => ?_) (fun hc => ?_)
    · have h := h.1 (hc)
      refine sv_iload_n hM dX12_expression_48 rfl rfl ?_
      exact sv_iret hM dX12_expression_49 rfl rfl ⟨l2_12, rfl, hl2_12, ok15, md16, h⟩
    · have h := h.2 (hc)
      refine sv_aload_n hM dX12_expression_13 rfl rfl ?_
      refine sv_bipush (d := (32 : Int)) hM dX12_expression_14 rfl rfl ?_
      obtain ⟨o19, h⟩ := h
      obtain ⟨o20, h⟩ := h
      refine sv_callV hM dX12_expression_16 sm_iv_398 (by decide) (sm_a0 _) rfl rfl (Nat.le_of_ble_eq_true rfl) sm_h24 (Nat.le_of_ble_eq_true rfl) (Nat.le_of_ble_eq_true rfl) (F' := 0) (sv_Fn (n := 0) o20) rfl (t_isSign (32 : Int) (sv_sts (sv_sts S [1020, 1021, 1022, 1023, 5, 1011, 3, 4, 1007, 1009, 11, 12, 13, 14, 1024, 15, 16, 1031, 1032, 17, 18, 19, 20, 21, 22, 23, 24, 25, 1042, 1043, 1044, 1045, 1100001, 1100002, 1100005, 1100003, 1100004] g5) [1020, 1021, 1022, 1023, 5, 1011, 3, 4, 1007, 1009, 11, 12, 13, 14, 1024, 15, 16, 1031, 1032, 17, 18, 19, 20, 21, 22, 23, 24, 25, 1042, 1043, 1044, 1045, 1100001, 1100002, 1100005, 1100003, 1100004] g11) ok15 (⟨by decide, by decide⟩ : sv_R (32 : Int)) o19) (fun v S1 hq => ?_)
      obtain ⟨rfl, hS1⟩ := hq
      obtain rfl : (sv_sts (sv_sts S [1020, 1021, 1022, 1023, 5, 1011, 3, 4, 1007, 1009, 11, 12, 13, 14, 1024, 15, 16, 1031, 1032, 17, 18, 19, 20, 21, 22, 23, 24, 25, 1042, 1043, 1044, 1045, 1100001, 1100002, 1100005, 1100003, 1100004] g5) [1020, 1021, 1022, 1023, 5, 1011, 3, 4, 1007, 1009, 11, 12, 13, 14, 1024, 15, 16, 1031, 1032, 17, 18, 19, 20, 21, 22, 23, 24, 25, 1042, 1043, 1044, 1045, 1100001, 1100002, 1100005, 1100003, 1100004] g11) = S1 := hS1.symm
      show sv_T sm_XS sm_cs sm_L sm_sh (30 * (20 - (S 1023 0)) + 26).toNat (q_expression p1 S) 43 19 [(0, .ref 0), (1, sv_I p1), (2, sv_I l2_12)] [sv_I (if (S 6 (g11 1020 0)) = 5 ∧ (S 7 (g11 1020 0)) = (32 : Int) then 1 else 0)] (sv_sts (sv_sts S [1020, 1021, 1022, 1023, 5, 1011, 3, 4, 1007, 1009, 11, 12, 13, 14, 1024, 15, 16, 1031, 1032, 17, 18, 19, 20, 21, 22, 23, 24, 25, 1042, 1043, 1044, 1045, 1100001, 1100002, 1100005, 1100003, 1100004] g5) [1020, 1021, 1022, 1023, 5, 1011, 3, 4, 1007, 1009, 11, 12, 13, 14, 1024, 15, 16, 1031, 1032, 17, 18, 19, 20, 21, 22, 23, 24, 25, 1042, 1043, 1044, 1045, 1100001, 1100002, 1100005, 1100003, 1100004] g11)
      refine sv_cond_eq hM dX12_expression_19 (sv_Rite : sv_R (if (S 6 (g11 1020 0)) = 5 ∧ (S 7 (g11 1020 0)) = (32 : Int) then 1 else 0)) (t := 48) rfl rfl (fun hc => ?_) (fun hc => ?_)
      · have h := h.1 (sv_iten hc)
        refine sv_iload_n hM dX12_expression_48 rfl rfl ?_
        exact sv_iret hM dX12_expression_49 rfl rfl ⟨l2_12, rfl, hl2_12, ok15, md16, h⟩
      · have h := h.2 (sv_itep hc)
        refine sv_aload_n hM dX12_expression_22 rfl rfl ?_
        refine sv_dupA hM dX12_expression_23 rfl ?_
        have k21 : sv_R (g11 1020 0) := sm_okI ok15 sm_r1020 0
        have h := h k21
        refine sv_getI hM dX12_expression_24 sm_fl_392 (sm_a0 _) sm_k20 rfl (x := (g11 1020 0)) rfl ?_
        refine sv_iconst (d := (1 : Int)) hM dX12_expression_27 rfl rfl ?_
        refine sv_iadd hM dX12_expression_28 rfl ?_
        obtain ⟨o22, h⟩ := h
        refine sv_putI sm_X hM dX12_expression_29 sm_fp_392 (sm_a0 _) sm_q20 (Or.inl rfl) rfl rfl rfl rfl ?_
        have ok23 : sm_ok (sv_up (sv_sts (sv_sts S [1020, 1021, 1022, 1023, 5, 1011, 3, 4, 1007, 1009, 11, 12, 13, 14, 1024, 15, 16, 1031, 1032, 17, 18, 19, 20, 21, 22, 23, 24, 25, 1042, 1043, 1044, 1045, 1100001, 1100002, 1100005, 1100003, 1100004] g5) [1020, 1021, 1022, 1023, 5, 1011, 3, 4, 1007, 1009, 11, 12, 13, 14, 1024, 15, 16, 1031, 1032, 17, 18, 19, 20, 21, 22, 23, 24, 25, 1042, 1043, 1044, 1045, 1100001, 1100002, 1100005, 1100003, 1100004] g11) 1020 0 ((g11 1020 0) + (1 : Int))) := sm_upI ok15 sm_r1020 o22
        have md24 : sv_mod [1020, 1021, 1022, 1023, 5, 1011, 3, 4, 1007, 1009, 11, 12, 13, 14, 1024, 15, 16, 1031, 1032, 17, 18, 19, 20, 21, 22, 23, 24, 25, 1042, 1043, 1044, 1045, 1100001, 1100002, 1100005, 1100003, 1100004] S (sv_up (sv_sts (sv_sts S [1020, 1021, 1022, 1023, 5, 1011, 3, 4, 1007, 1009, 11, 12, 13, 14, 1024, 15, 16, 1031, 1032, 17, 18, 19, 20, 21, 22, 23, 24, 25, 1042, 1043, 1044, 1045, 1100001, 1100002, 1100005, 1100003, 1100004] g5) [1020, 1021, 1022, 1023, 5, 1011, 3, 4, 1007, 1009, 11, 12, 13, 14, 1024, 15, 16, 1031, 1032, 17, 18, 19, 20, 21, 22, 23, 24, 25, 1042, 1043, 1044, 1045, 1100001, 1100002, 1100005, 1100003, 1100004] g11) 1020 0 ((g11 1020 0) + (1 : Int))) := sv_mod.up md16 (by decide)
        have md25 : sv_mod [1020, 1021, 1022, 1023, 5, 1011, 3, 4, 1007, 1009, 11, 12, 13, 14, 1024, 15, 16, 1031, 1032, 17, 18, 19, 20, 21, 22, 23, 24, 25, 1042, 1043, 1044, 1045, 1100001, 1100002, 1100005, 1100003, 1100004] (sv_sts S [1020, 1021, 1022, 1023, 5, 1011, 3, 4, 1007, 1009, 11, 12, 13, 14, 1024, 15, 16, 1031, 1032, 17, 18, 19, 20, 21, 22, 23, 24, 25, 1042, 1043, 1044, 1045, 1100001, 1100002, 1100005, 1100003, 1100004] g5) (sv_up (sv_sts (sv_sts S [1020, 1021, 1022, 1023, 5, 1011, 3, 4, 1007, 1009, 11, 12, 13, 14, 1024, 15, 16, 1031, 1032, 17, 18, 19, 20, 21, 22, 23, 24, 25, 1042, 1043, 1044, 1045, 1100001, 1100002, 1100005, 1100003, 1100004] g5) [1020, 1021, 1022, 1023, 5, 1011, 3, 4, 1007, 1009, 11, 12, 13, 14, 1024, 15, 16, 1031, 1032, 17, 18, 19, 20, 21, 22, 23, 24, 25, 1042, 1043, 1044, 1045, 1100001, 1100002, 1100005, 1100003, 1100004] g11) 1020 0 ((g11 1020 0) + (1 : Int))) := sv_mod.up md17 (by decide)
        refine sv_aload_n hM dX12_expression_32 rfl rfl ?_
        refine sv_iconst (d := (3 : Int)) hM dX12_expression_33 rfl rfl ?_
        refine sv_iload_n hM dX12_expression_34 rfl rfl ?_
        refine sv_aload_n hM dX12_expression_35 rfl rfl ?_
        refine sv_iload_n hM dX12_expression_36 rfl rfl ?_
        obtain ⟨o26, h⟩ := h
        obtain ⟨o27, h⟩ := h
        obtain ⟨o28, h⟩ := h
        refine sv_callV hM dX12_expression_37 sm_iv_442 (by decide) (sm_a0 _) rfl rfl (Nat.le_of_ble_eq_true rfl) sm_h47 (Nat.le_of_ble_eq_true rfl) (Nat.le_of_ble_eq_true rfl) (F' := (((if 0 < (g11 1021 0) then 12 else 30 * (20 - (g11 1023 0)) + 25))).toNat) (sv_Fe o28) rfl ((IH ((if 0 < (g11 1021 0) then 12 else 30 * (20 - (g11 1023 0)) + 25)) o27.1 o27.2).2.2.1 p1 (sv_up (sv_sts (sv_sts S [1020, 1021, 1022, 1023, 5, 1011, 3, 4, 1007, 1009, 11, 12, 13, 14, 1024, 15, 16, 1031, 1032, 17, 18, 19, 20, 21, 22, 23, 24, 25, 1042, 1043, 1044, 1045, 1100001, 1100002, 1100005, 1100003, 1100004] g5) [1020, 1021, 1022, 1023, 5, 1011, 3, 4, 1007, 1009, 11, 12, 13, 14, 1024, 15, 16, 1031, 1032, 17, 18, 19, 20, 21, 22, 23, 24, 25, 1042, 1043, 1044, 1045, 1100001, 1100002, 1100005, 1100003, 1100004] g11) 1020 0 ((g11 1020 0) + (1 : Int))) ok23 o1 o26 rfl) (fun v S1 hq => ?_)
        obtain ⟨r33, rfl, hr33, ok30, md31, hp32⟩ := hq
        obtain ⟨g29, rfl⟩ : ∃ g, S1 = sv_sts (sv_up (sv_sts (sv_sts S [1020, 1021, 1022, 1023, 5, 1011, 3, 4, 1007, 1009, 11, 12, 13, 14, 1024, 15, 16, 1031, 1032, 17, 18, 19, 20, 21, 22, 23, 24, 25, 1042, 1043, 1044, 1045, 1100001, 1100002, 1100005, 1100003, 1100004] g5) [1020, 1021, 1022, 1023, 5, 1011, 3, 4, 1007, 1009, 11, 12, 13, 14, 1024, 15, 16, 1031, 1032, 17, 18, 19, 20, 21, 22, 23, 24, 25, 1042, 1043, 1044, 1045, 1100001, 1100002, 1100005, 1100003, 1100004] g11) 1020 0 ((g11 1020 0) + (1 : Int))) [1020, 1021, 1022, 1023, 5, 1011, 3, 4, 1007, 1009, 11, 12, 13, 14, 1024, 15, 16, 1031, 1032, 17, 18, 19, 20, 21, 22, 23, 24, 25, 1042, 1043, 1044, 1045, 1100001, 1100002, 1100005, 1100003, 1100004] g := ⟨_, md31.eq⟩
        show sv_T sm_XS sm_cs sm_L sm_sh (30 * (20 - (S 1023 0)) + 26).toNat (q_expression p1 S) 43 40 [(0, .ref 0), (1, sv_I p1), (2, sv_I l2_12)] [sv_I r33, sv_I l2_12, sv_I (3 : Int), .ref 0] (sv_sts (sv_up (sv_sts (sv_sts S [1020, 1021, 1022, 1023, 5, 1011, 3, 4, 1007, 1009, 11, 12, 13, 14, 1024, 15, 16, 1031, 1032, 17, 18, 19, 20, 21, 22, 23, 24, 25, 1042, 1043, 1044, 1045, 1100001, 1100002, 1100005, 1100003, 1100004] g5) [1020, 1021, 1022, 1023, 5, 1011, 3, 4, 1007, 1009, 11, 12, 13, 14, 1024, 15, 16, 1031, 1032, 17, 18, 19, 20, 21, 22, 23, 24, 25, 1042, 1043, 1044, 1045, 1100001, 1100002, 1100005, 1100003, 1100004] g11) 1020 0 ((g11 1020 0) + (1 : Int))) [1020, 1021, 1022, 1023, 5, 1011, 3, 4, 1007, 1009, 11, 12, 13, 14, 1024, 15, 16, 1031, 1032, 17, 18, 19, 20, 21, 22, 23, 24, 25, 1042, 1043, 1044, 1045, 1100001, 1100002, 1100005, 1100003, 1100004] g29)
        have md34 : sv_mod [1020, 1021, 1022, 1023, 5, 1011, 3, 4, 1007, 1009, 11, 12, 13, 14, 1024, 15, 16, 1031, 1032, 17, 18, 19, 20, 21, 22, 23, 24, 25, 1042, 1043, 1044, 1045, 1100001, 1100002, 1100005, 1100003, 1100004] S (sv_sts (sv_up (sv_sts (sv_sts S [1020, 1021, 1022, 1023, 5, 1011, 3, 4, 1007, 1009, 11, 12, 13, 14, 1024, 15, 16, 1031, 1032, 17, 18, 19, 20, 21, 22, 23, 24, 25, 1042, 1043, 1044, 1045, 1100001, 1100002, 1100005, 1100003, 1100004] g5) [1020, 1021, 1022, 1023, 5, 1011, 3, 4, 1007, 1009, 11, 12, 13, 14, 1024, 15, 16, 1031, 1032, 17, 18, 19, 20, 21, 22, 23, 24, 25, 1042, 1043, 1044, 1045, 1100001, 1100002, 1100005, 1100003, 1100004] g11) 1020 0 ((g11 1020 0) + (1 : Int))) [1020, 1021, 1022, 1023, 5, 1011, 3, 4, 1007, 1009, 11, 12, 13, 14, 1024, 15, 16, 1031, 1032, 17, 18, 19, 20, 21, 22, 23, 24, 25, 1042, 1043, 1044, 1045, 1100001, 1100002, 1100005, 1100003, 1100004] g29) := sv_mod.sts md24 (by decide)
        have md35 : sv_mod [1020, 1021, 1022, 1023, 5, 1011, 3, 4, 1007, 1009, 11, 12, 13, 14, 1024, 15, 16, 1031, 1032, 17, 18, 19, 20, 21, 22, 23, 24, 25, 1042, 1043, 1044, 1045, 1100001, 1100002, 1100005, 1100003, 1100004] (sv_sts S [1020, 1021, 1022, 1023, 5, 1011, 3, 4, 1007, 1009, 11, 12, 13, 14, 1024, 15, 16, 1031, 1032, 17, 18, 19, 20, 21, 22, 23, 24, 25, 1042, 1043, 1044, 1045, 1100001, 1100002, 1100005, 1100003, 1100004] g5) (sv_sts (sv_up (sv_sts (sv_sts S [1020, 1021, 1022, 1023, 5, 1011, 3, 4, 1007, 1009, 11, 12, 13, 14, 1024, 15, 16, 1031, 1032, 17, 18, 19, 20, 21, 22, 23, 24, 25, 1042, 1043, 1044, 1045, 1100001, 1100002, 1100005, 1100003, 1100004] g5) [1020, 1021, 1022, 1023, 5, 1011, 3, 4, 1007, 1009, 11, 12, 13, 14, 1024, 15, 16, 1031, 1032, 17, 18, 19, 20, 21, 22, 23, 24, 25, 1042, 1043, 1044, 1045, 1100001, 1100002, 1100005, 1100003, 1100004] g11) 1020 0 ((g11 1020 0) + (1 : Int))) [1020, 1021, 1022, 1023, 5, 1011, 3, 4, 1007, 1009, 11, 12, 13, 14, 1024, 15, 16, 1031, 1032, 17, 18, 19, 20, 21, 22, 23, 24, 25, 1042, 1043, 1044, 1045, 1100001, 1100002, 1100005, 1100003, 1100004] g29) := sv_mod.sts md25 (by decide)
        have h := h r33 hr33 g29 hp32
        refine sv_iconst (d := (0 : Int)) hM dX12_expression_40 rfl rfl ?_
        obtain ⟨o36, h⟩ := h
        refine sv_callV hM dX12_expression_41 sm_iv_446 (by decide) (sm_a0 _) rfl rfl (Nat.le_of_ble_eq_true rfl) sm_h33 (Nat.le_of_ble_eq_true rfl) (Nat.le_of_ble_eq_true rfl) (F' := 0) (sv_Fn (n := 0) o20) rfl (t_node (3 : Int) l2_12 r33 (0 : Int) (sv_sts (sv_up (sv_sts (sv_sts S [1020, 1021, 1022, 1023, 5, 1011, 3, 4, 1007, 1009, 11, 12, 13, 14, 1024, 15, 16, 1031, 1032, 17, 18, 19, 20, 21, 22, 23, 24, 25, 1042, 1043, 1044, 1045, 1100001, 1100002, 1100005, 1100003, 1100004] g5) [1020, 1021, 1022, 1023, 5, 1011, 3, 4, 1007, 1009, 11, 12, 13, 14, 1024, 15, 16, 1031, 1032, 17, 18, 19, 20, 21, 22, 23, 24, 25, 1042, 1043, 1044, 1045, 1100001, 1100002, 1100005, 1100003, 1100004] g11) 1020 0 ((g11 1020 0) + (1 : Int))) [1020, 1021, 1022, 1023, 5, 1011, 3, 4, 1007, 1009, 11, 12, 13, 14, 1024, 15, 16, 1031, 1032, 17, 18, 19, 20, 21, 22, 23, 24, 25, 1042, 1043, 1044, 1045, 1100001, 1100002, 1100005, 1100003, 1100004] g29) ok30 (⟨by decide, by decide⟩ : sv_R (3 : Int)) hl2_12 hr33 (⟨by decide, by decide⟩ : sv_R (0 : Int)) o36) (fun v S1 hq => ?_)
        obtain ⟨r41, rfl, hr41, ok38, md39, hp40⟩ := hq
        obtain ⟨g37, rfl⟩ : ∃ g, S1 = sv_sts (sv_sts (sv_up (sv_sts (sv_sts S [1020, 1021, 1022, 1023, 5, 1011, 3, 4, 1007, 1009, 11, 12, 13, 14, 1024, 15, 16, 1031, 1032, 17, 18, 19, 20, 21, 22, 23, 24, 25, 1042, 1043, 1044, 1045, 1100001, 1100002, 1100005, 1100003, 1100004] g5) [1020, 1021, 1022, 1023, 5, 1011, 3, 4, 1007, 1009, 11, 12, 13, 14, 1024, 15, 16, 1031, 1032, 17, 18, 19, 20, 21, 22, 23, 24, 25, 1042, 1043, 1044, 1045, 1100001, 1100002, 1100005, 1100003, 1100004] g11) 1020 0 ((g11 1020 0) + (1 : Int))) [1020, 1021, 1022, 1023, 5, 1011, 3, 4, 1007, 1009, 11, 12, 13, 14, 1024, 15, 16, 1031, 1032, 17, 18, 19, 20, 21, 22, 23, 24, 25, 1042, 1043, 1044, 1045, 1100001, 1100002, 1100005, 1100003, 1100004] g29) [1024, 11, 12, 13, 14] g := ⟨_, md39.eq⟩
        show sv_T sm_XS sm_cs sm_L sm_sh (30 * (20 - (S 1023 0)) + 26).toNat (q_expression p1 S) 43 44 [(0, .ref 0), (1, sv_I p1), (2, sv_I l2_12)] [sv_I r41] (sv_sts (sv_sts (sv_up (sv_sts (sv_sts S [1020, 1021, 1022, 1023, 5, 1011, 3, 4, 1007, 1009, 11, 12, 13, 14, 1024, 15, 16, 1031, 1032, 17, 18, 19, 20, 21, 22, 23, 24, 25, 1042, 1043, 1044, 1045, 1100001, 1100002, 1100005, 1100003, 1100004] g5) [1020, 1021, 1022, 1023, 5, 1011, 3, 4, 1007, 1009, 11, 12, 13, 14, 1024, 15, 16, 1031, 1032, 17, 18, 19, 20, 21, 22, 23, 24, 25, 1042, 1043, 1044, 1045, 1100001, 1100002, 1100005, 1100003, 1100004] g11) 1020 0 ((g11 1020 0) + (1 : Int))) [1020, 1021, 1022, 1023, 5, 1011, 3, 4, 1007, 1009, 11, 12, 13, 14, 1024, 15, 16, 1031, 1032, 17, 18, 19, 20, 21, 22, 23, 24, 25, 1042, 1043, 1044, 1045, 1100001, 1100002, 1100005, 1100003, 1100004] g29) [1024, 11, 12, 13, 14] g37)
        have md42 : sv_mod [1020, 1021, 1022, 1023, 5, 1011, 3, 4, 1007, 1009, 11, 12, 13, 14, 1024, 15, 16, 1031, 1032, 17, 18, 19, 20, 21, 22, 23, 24, 25, 1042, 1043, 1044, 1045, 1100001, 1100002, 1100005, 1100003, 1100004] S (sv_sts (sv_sts (sv_up (sv_sts (sv_sts S [1020, 1021, 1022, 1023, 5, 1011, 3, 4, 1007, 1009, 11, 12, 13, 14, 1024, 15, 16, 1031, 1032, 17, 18, 19, 20, 21, 22, 23, 24, 25, 1042, 1043, 1044, 1045, 1100001, 1100002, 1100005, 1100003, 1100004] g5) [1020, 1021, 1022, 1023, 5, 1011, 3, 4, 1007, 1009, 11, 12, 13, 14, 1024, 15, 16, 1031, 1032, 17, 18, 19, 20, 21, 22, 23, 24, 25, 1042, 1043, 1044, 1045, 1100001, 1100002, 1100005, 1100003, 1100004] g11) 1020 0 ((g11 1020 0) + (1 : Int))) [1020, 1021, 1022, 1023, 5, 1011, 3, 4, 1007, 1009, 11, 12, 13, 14, 1024, 15, 16, 1031, 1032, 17, 18, 19, 20, 21, 22, 23, 24, 25, 1042, 1043, 1044, 1045, 1100001, 1100002, 1100005, 1100003, 1100004] g29) [1024, 11, 12, 13, 14] g37) := sv_mod.sts md34 (by decide)
        have md43 : sv_mod [1020, 1021, 1022, 1023, 5, 1011, 3, 4, 1007, 1009, 11, 12, 13, 14, 1024, 15, 16, 1031, 1032, 17, 18, 19, 20, 21, 22, 23, 24, 25, 1042, 1043, 1044, 1045, 1100001, 1100002, 1100005, 1100003, 1100004] (sv_sts S [1020, 1021, 1022, 1023, 5, 1011, 3, 4, 1007, 1009, 11, 12, 13, 14, 1024, 15, 16, 1031, 1032, 17, 18, 19, 20, 21, 22, 23, 24, 25, 1042, 1043, 1044, 1045, 1100001, 1100002, 1100005, 1100003, 1100004] g5) (sv_sts (sv_sts (sv_up (sv_sts (sv_sts S [1020, 1021, 1022, 1023, 5, 1011, 3, 4, 1007, 1009, 11, 12, 13, 14, 1024, 15, 16, 1031, 1032, 17, 18, 19, 20, 21, 22, 23, 24, 25, 1042, 1043, 1044, 1045, 1100001, 1100002, 1100005, 1100003, 1100004] g5) [1020, 1021, 1022, 1023, 5, 1011, 3, 4, 1007, 1009, 11, 12, 13, 14, 1024, 15, 16, 1031, 1032, 17, 18, 19, 20, 21, 22, 23, 24, 25, 1042, 1043, 1044, 1045, 1100001, 1100002, 1100005, 1100003, 1100004] g11) 1020 0 ((g11 1020 0) + (1 : Int))) [1020, 1021, 1022, 1023, 5, 1011, 3, 4, 1007, 1009, 11, 12, 13, 14, 1024, 15, 16, 1031, 1032, 17, 18, 19, 20, 21, 22, 23, 24, 25, 1042, 1043, 1044, 1045, 1100001, 1100002, 1100005, 1100003, 1100004] g29) [1024, 11, 12, 13, 14] g37) := sv_mod.sts md35 (by decide)
        have h := h r41 hr41 g37 hp40
        obtain ⟨o44, h⟩ := h
        refine sv_ghost sm_X 1100001 r41 ((if (g29 1021 0) = 0 then 1 else 0)) (by decide) ?_
        have ok45 : sm_ok (sv_up (sv_sts (sv_sts (sv_up (sv_sts (sv_sts S [1020, 1021, 1022, 1023, 5, 1011, 3, 4, 1007, 1009, 11, 12, 13, 14, 1024, 15, 16, 1031, 1032, 17, 18, 19, 20, 21, 22, 23, 24, 25, 1042, 1043, 1044, 1045, 1100001, 1100002, 1100005, 1100003, 1100004] g5) [1020, 1021, 1022, 1023, 5, 1011, 3, 4, 1007, 1009, 11, 12, 13, 14, 1024, 15, 16, 1031, 1032, 17, 18, 19, 20, 21, 22, 23, 24, 25, 1042, 1043, 1044, 1045, 1100001, 1100002, 1100005, 1100003, 1100004] g11) 1020 0 ((g11 1020 0) + (1 : Int))) [1020, 1021, 1022, 1023, 5, 1011, 3, 4, 1007, 1009, 11, 12, 13, 14, 1024, 15, 16, 1031, 1032, 17, 18, 19, 20, 21, 22, 23, 24, 25, 1042, 1043, 1044, 1045, 1100001, 1100002, 1100005, 1100003, 1100004] g29) [1024, 11, 12, 13, 14] g37) 1100001 r41 ((if (g29 1021 0) = 0 then 1 else 0))) := sm_upI ok38 sm_r1100001 o44
        have md46 : sv_mod [1020, 1021, 1022, 1023, 5, 1011, 3, 4, 1007, 1009, 11, 12, 13, 14, 1024, 15, 16, 1031, 1032, 17, 18, 19, 20, 21, 22, 23, 24, 25, 1042, 1043, 1044, 1045, 1100001, 1100002, 1100005, 1100003, 1100004] S (sv_up (sv_sts (sv_sts (sv_up (sv_sts (sv_sts S [1020, 1021, 1022, 1023, 5, 1011, 3, 4, 1007, 1009, 11, 12, 13, 14, 1024, 15, 16, 1031, 1032, 17, 18, 19, 20, 21, 22, 23, 24, 25, 1042, 1043, 1044, 1045, 1100001, 1100002, 1100005, 1100003, 1100004] g5) [1020, 1021, 1022, 1023, 5, 1011, 3, 4, 1007, 1009, 11, 12, 13, 14, 1024, 15, 16, 1031, 1032, 17, 18, 19, 20, 21, 22, 23, 24, 25, 1042, 1043, 1044, 1045, 1100001, 1100002, 1100005, 1100003, 1100004] g11) 1020 0 ((g11 1020 0) + (1 : Int))) [1020, 1021, 1022, 1023, 5, 1011, 3, 4, 1007, 1009, 11, 12, 13, 14, 1024, 15, 16, 1031, 1032, 17, 18, 19, 20, 21, 22, 23, 24, 25, 1042, 1043, 1044, 1045, 1100001, 1100002, 1100005, 1100003, 1100004] g29) [1024, 11, 12, 13, 14] g37) 1100001 r41 ((if (g29 1021 0) = 0 then 1 else 0))) := sv_mod.up md42 (by decide)
        have md47 : sv_mod [1020, 1021, 1022, 1023, 5, 1011, 3, 4, 1007, 1009, 11, 12, 13, 14, 1024, 15, 16, 1031, 1032, 17, 18, 19, 20, 21, 22, 23, 24, 25, 1042, 1043, 1044, 1045, 1100001, 1100002, 1100005, 1100003, 1100004] (sv_sts S [1020, 1021, 1022, 1023, 5, 1011, 3, 4, 1007, 1009, 11, 12, 13, 14, 1024, 15, 16, 1031, 1032, 17, 18, 19, 20, 21, 22, 23, 24, 25, 1042, 1043, 1044, 1045, 1100001, 1100002, 1100005, 1100003, 1100004] g5) (sv_up (sv_sts (sv_sts (sv_up (sv_sts (sv_sts S [1020, 1021, 1022, 1023, 5, 1011, 3, 4, 1007, 1009, 11, 12, 13, 14, 1024, 15, 16, 1031, 1032, 17, 18, 19, 20, 21, 22, 23, 24, 25, 1042, 1043, 1044, 1045, 1100001, 1100002, 1100005, 1100003, 1100004] g5) [1020, 1021, 1022, 1023, 5, 1011, 3, 4, 1007, 1009, 11, 12, 13, 14, 1024, 15, 16, 1031, 1032, 17, 18, 19, 20, 21, 22, 23, 24, 25, 1042, 1043, 1044, 1045, 1100001, 1100002, 1100005, 1100003, 1100004] g11) 1020 0 ((g11 1020 0) + (1 : Int))) [1020, 1021, 1022, 1023, 5, 1011, 3, 4, 1007, 1009, 11, 12, 13, 14, 1024, 15, 16, 1031, 1032, 17, 18, 19, 20, 21, 22, 23, 24, 25, 1042, 1043, 1044, 1045, 1100001, 1100002, 1100005, 1100003, 1100004] g29) [1024, 11, 12, 13, 14] g37) 1100001 r41 ((if (g29 1021 0) = 0 then 1 else 0))) := sv_mod.up md43 (by decide)
        obtain ⟨o48, h⟩ := h
        refine sv_ghost sm_X 1100002 r41 ((17 * (20 - (S 1023 0)) + 17)) (by decide) ?_
        have ok49 : sm_ok (sv_up (sv_up (sv_sts (sv_sts (sv_up (sv_sts (sv_sts S [1020, 1021, 1022, 1023, 5, 1011, 3, 4, 1007, 1009, 11, 12, 13, 14, 1024, 15, 16, 1031, 1032, 17, 18, 19, 20, 21, 22, 23, 24, 25, 1042, 1043, 1044, 1045, 1100001, 1100002, 1100005, 1100003, 1100004] g5) [1020, 1021, 1022, 1023, 5, 1011, 3, 4, 1007, 1009, 11, 12, 13, 14, 1024, 15, 16, 1031, 1032, 17, 18, 19, 20, 21, 22, 23, 24, 25, 1042, 1043, 1044, 1045, 1100001, 1100002, 1100005, 1100003, 1100004] g11) 1020 0 ((g11 1020 0) + (1 : Int))) [1020, 1021, 1022, 1023, 5, 1011, 3, 4, 1007, 1009, 11, 12, 13, 14, 1024, 15, 16, 1031, 1032, 17, 18, 19, 20, 21, 22, 23, 24, 25, 1042, 1043, 1044, 1045, 1100001, 1100002, 1100005, 1100003, 1100004] g29) [1024, 11, 12, 13, 14] g37) 1100001 r41 ((if (g29 1021 0) = 0 then 1 else 0))) 1100002 r41 ((17 * (20 - (S 1023 0)) + 17))) := sm_upI ok45 sm_r1100002 o48
        have md50 : sv_mod [1020, 1021, 1022, 1023, 5, 1011, 3, 4, 1007, 1009, 11, 12, 13, 14, 1024, 15, 16, 1031, 1032, 17, 18, 19, 20, 21, 22, 23, 24, 25, 1042, 1043, 1044, 1045, 1100001, 1100002, 1100005, 1100003, 1100004] S (sv_up (sv_up (sv_sts (sv_sts (sv_up (sv_sts (sv_sts S [1020, 1021, 1022, 1023, 5, 1011, 3, 4, 1007, 1009, 11, 12, 13, 14, 1024, 15, 16, 1031, 1032, 17, 18, 19, 20, 21, 22, 23, 24, 25, 1042, 1043, 1044, 1045, 1100001, 1100002, 1100005, 1100003, 1100004] g5) [1020, 1021, 1022, 1023, 5, 1011, 3, 4, 1007, 1009, 11, 12, 13, 14, 1024, 15, 16, 1031, 1032, 17, 18, 19, 20, 21, 22, 23, 24, 25, 1042, 1043, 1044, 1045, 1100001, 1100002, 1100005, 1100003, 1100004] g11) 1020 0 ((g11 1020 0) + (1 : Int))) [1020, 1021, 1022, 1023, 5, 1011, 3, 4, 1007, 1009, 11, 12, 13, 14, 1024, 15, 16, 1031, 1032, 17, 18, 19, 20, 21, 22, 23, 24, 25, 1042, 1043, 1044, 1045, 1100001, 1100002, 1100005, 1100003, 1100004] g29) [1024, 11, 12, 13, 14] g37) 1100001 r41 ((if (g29 1021 0) = 0 then 1 else 0))) 1100002 r41 ((17 * (20 - (S 1023 0)) + 17))) := sv_mod.up md46 (by decide)
        have md51 : sv_mod [1020, 1021, 1022, 1023, 5, 1011, 3, 4, 1007, 1009, 11, 12, 13, 14, 1024, 15, 16, 1031, 1032, 17, 18, 19, 20, 21, 22, 23, 24, 25, 1042, 1043, 1044, 1045, 1100001, 1100002, 1100005, 1100003, 1100004] (sv_sts S [1020, 1021, 1022, 1023, 5, 1011, 3, 4, 1007, 1009, 11, 12, 13, 14, 1024, 15, 16, 1031, 1032, 17, 18, 19, 20, 21, 22, 23, 24, 25, 1042, 1043, 1044, 1045, 1100001, 1100002, 1100005, 1100003, 1100004] g5) (sv_up (sv_up (sv_sts (sv_sts (sv_up (sv_sts (sv_sts S [1020, 1021, 1022, 1023, 5, 1011, 3, 4, 1007, 1009, 11, 12, 13, 14, 1024, 15, 16, 1031, 1032, 17, 18, 19, 20, 21, 22, 23, 24, 25, 1042, 1043, 1044, 1045, 1100001, 1100002, 1100005, 1100003, 1100004] g5) [1020, 1021, 1022, 1023, 5, 1011, 3, 4, 1007, 1009, 11, 12, 13, 14, 1024, 15, 16, 1031, 1032, 17, 18, 19, 20, 21, 22, 23, 24, 25, 1042, 1043, 1044, 1045, 1100001, 1100002, 1100005, 1100003, 1100004] g11) 1020 0 ((g11 1020 0) + (1 : Int))) [1020, 1021, 1022, 1023, 5, 1011, 3, 4, 1007, 1009, 11, 12, 13, 14, 1024, 15, 16, 1031, 1032, 17, 18, 19, 20, 21, 22, 23, 24, 25, 1042, 1043, 1044, 1045, 1100001, 1100002, 1100005, 1100003, 1100004] g29) [1024, 11, 12, 13, 14] g37) 1100001 r41 ((if (g29 1021 0) = 0 then 1 else 0))) 1100002 r41 ((17 * (20 - (S 1023 0)) + 17))) := sv_mod.up md47 (by decide)
        obtain ⟨o52, h⟩ := h
        refine sv_ghost sm_X 1100005 r41 ((20 - (S 1023 0))) (by decide) ?_
        have ok53 : sm_ok (sv_up (sv_up (sv_up (sv_sts (sv_sts (sv_up (sv_sts (sv_sts S [1020, 1021, 1022, 1023, 5, 1011, 3, 4, 1007, 1009, 11, 12, 13, 14, 1024, 15, 16, 1031, 1032, 17, 18, 19, 20, 21, 22, 23, 24, 25, 1042, 1043, 1044, 1045, 1100001, 1100002, 1100005, 1100003, 1100004] g5) [1020, 1021, 1022, 1023, 5, 1011, 3, 4, 1007, 1009, 11, 12, 13, 14, 1024, 15, 16, 1031, 1032, 17, 18, 19, 20, 21, 22, 23, 24, 25, 1042, 1043, 1044, 1045, 1100001, 1100002, 1100005, 1100003, 1100004] g11) 1020 0 ((g11 1020 0) + (1 : Int))) [1020, 1021, 1022, 1023, 5, 1011, 3, 4, 1007, 1009, 11, 12, 13, 14, 1024, 15, 16, 1031, 1032, 17, 18, 19, 20, 21, 22, 23, 24, 25, 1042, 1043, 1044, 1045, 1100001, 1100002, 1100005, 1100003, 1100004] g29) [1024, 11, 12, 13, 14] g37) 1100001 r41 ((if (g29 1021 0) = 0 then 1 else 0))) 1100002 r41 ((17 * (20 - (S 1023 0)) + 17))) 1100005 r41 ((20 - (S 1023 0)))) := sm_upI ok49 sm_r1100005 o52
        have md54 : sv_mod [1020, 1021, 1022, 1023, 5, 1011, 3, 4, 1007, 1009, 11, 12, 13, 14, 1024, 15, 16, 1031, 1032, 17, 18, 19, 20, 21, 22, 23, 24, 25, 1042, 1043, 1044, 1045, 1100001, 1100002, 1100005, 1100003, 1100004] S (sv_up (sv_up (sv_up (sv_sts (sv_sts (sv_up (sv_sts (sv_sts S [1020, 1021, 1022, 1023, 5, 1011, 3, 4, 1007, 1009, 11, 12, 13, 14, 1024, 15, 16, 1031, 1032, 17, 18, 19, 20, 21, 22, 23, 24, 25, 1042, 1043, 1044, 1045, 1100001, 1100002, 1100005, 1100003, 1100004] g5) [1020, 1021, 1022, 1023, 5, 1011, 3, 4, 1007, 1009, 11, 12, 13, 14, 1024, 15, 16, 1031, 1032, 17, 18, 19, 20, 21, 22, 23, 24, 25, 1042, 1043, 1044, 1045, 1100001, 1100002, 1100005, 1100003, 1100004] g11) 1020 0 ((g11 1020 0) + (1 : Int))) [1020, 1021, 1022, 1023, 5, 1011, 3, 4, 1007, 1009, 11, 12, 13, 14, 1024, 15, 16, 1031, 1032, 17, 18, 19, 20, 21, 22, 23, 24, 25, 1042, 1043, 1044, 1045, 1100001, 1100002, 1100005, 1100003, 1100004] g29) [1024, 11, 12, 13, 14] g37) 1100001 r41 ((if (g29 1021 0) = 0 then 1 else 0))) 1100002 r41 ((17 * (20 - (S 1023 0)) + 17))) 1100005 r41 ((20 - (S 1023 0)))) := sv_mod.up md50 (by decide)
        have md55 : sv_mod [1020, 1021, 1022, 1023, 5, 1011, 3, 4, 1007, 1009, 11, 12, 13, 14, 1024, 15, 16, 1031, 1032, 17, 18, 19, 20, 21, 22, 23, 24, 25, 1042, 1043, 1044, 1045, 1100001, 1100002, 1100005, 1100003, 1100004] (sv_sts S [1020, 1021, 1022, 1023, 5, 1011, 3, 4, 1007, 1009, 11, 12, 13, 14, 1024, 15, 16, 1031, 1032, 17, 18, 19, 20, 21, 22, 23, 24, 25, 1042, 1043, 1044, 1045, 1100001, 1100002, 1100005, 1100003, 1100004] g5) (sv_up (sv_up (sv_up (sv_sts (sv_sts (sv_up (sv_sts (sv_sts S [1020, 1021, 1022, 1023, 5, 1011, 3, 4, 1007, 1009, 11, 12, 13, 14, 1024, 15, 16, 1031, 1032, 17, 18, 19, 20, 21, 22, 23, 24, 25, 1042, 1043, 1044, 1045, 1100001, 1100002, 1100005, 1100003, 1100004] g5) [1020, 1021, 1022, 1023, 5, 1011, 3, 4, 1007, 1009, 11, 12, 13, 14, 1024, 15, 16, 1031, 1032, 17, 18, 19, 20, 21, 22, 23, 24, 25, 1042, 1043, 1044, 1045, 1100001, 1100002, 1100005, 1100003, 1100004] g11) 1020 0 ((g11 1020 0) + (1 : Int))) [1020, 1021, 1022, 1023, 5, 1011, 3, 4, 1007, 1009, 11, 12, 13, 14, 1024, 15, 16, 1031, 1032, 17, 18, 19, 20, 21, 22, 23, 24, 25, 1042, 1043, 1044, 1045, 1100001, 1100002, 1100005, 1100003, 1100004] g29) [1024, 11, 12, 13, 14] g37) 1100001 r41 ((if (g29 1021 0) = 0 then 1 else 0))) 1100002 r41 ((17 * (20 - (S 1023 0)) + 17))) 1100005 r41 ((20 - (S 1023 0)))) := sv_mod.up md51 (by decide)
        refine sv_ghost sm_X 1100003 r41 (0 : Int) (by decide) ?_
        have ok56 : sm_ok (sv_up (sv_up (sv_up (sv_up (sv_sts (sv_sts (sv_up (sv_sts (sv_sts S [1020, 1021, 1022, 1023, 5, 1011, 3, 4, 1007, 1009, 11, 12, 13, 14, 1024, 15, 16, 1031, 1032, 17, 18, 19, 20, 21, 22, 23, 24, 25, 1042, 1043, 1044, 1045, 1100001, 1100002, 1100005, 1100003, 1100004] g5) [1020, 1021, 1022, 1023, 5, 1011, 3, 4, 1007, 1009, 11, 12, 13, 14, 1024, 15, 16, 1031, 1032, 17, 18, 19, 20, 21, 22, 23, 24, 25, 1042, 1043, 1044, 1045, 1100001, 1100002, 1100005, 1100003, 1100004] g11) 1020 0 ((g11 1020 0) + (1 : Int))) [1020, 1021, 1022, 1023, 5, 1011, 3, 4, 1007, 1009, 11, 12, 13, 14, 1024, 15, 16, 1031, 1032, 17, 18, 19, 20, 21, 22, 23, 24, 25, 1042, 1043, 1044, 1045, 1100001, 1100002, 1100005, 1100003, 1100004] g29) [1024, 11, 12, 13, 14] g37) 1100001 r41 ((if (g29 1021 0) = 0 then 1 else 0))) 1100002 r41 ((17 * (20 - (S 1023 0)) + 17))) 1100005 r41 ((20 - (S 1023 0)))) 1100003 r41 (0 : Int)) := sm_upI ok53 sm_r1100003 (⟨by decide, by decide⟩ : sv_R (0 : Int))
        have md57 : sv_mod [1020, 1021, 1022, 1023, 5, 1011, 3, 4, 1007, 1009, 11, 12, 13, 14, 1024, 15, 16, 1031, 1032, 17, 18, 19, 20, 21, 22, 23, 24, 25, 1042, 1043, 1044, 1045, 1100001, 1100002, 1100005, 1100003, 1100004] S (sv_up (sv_up (sv_up (sv_up (sv_sts (sv_sts (sv_up (sv_sts (sv_sts S [1020, 1021, 1022, 1023, 5, 1011, 3, 4, 1007, 1009, 11, 12, 13, 14, 1024, 15, 16, 1031, 1032, 17, 18, 19, 20, 21, 22, 23, 24, 25, 1042, 1043, 1044, 1045, 1100001, 1100002, 1100005, 1100003, 1100004] g5) [1020, 1021, 1022, 1023, 5, 1011, 3, 4, 1007, 1009, 11, 12, 13, 14, 1024, 15, 16, 1031, 1032, 17, 18, 19, 20, 21, 22, 23, 24, 25, 1042, 1043, 1044, 1045, 1100001, 1100002, 1100005, 1100003, 1100004] g11) 1020 0 ((g11 1020 0) + (1 : Int))) [1020, 1021, 1022, 1023, 5, 1011, 3, 4, 1007, 1009, 11, 12, 13, 14, 1024, 15, 16, 1031, 1032, 17, 18, 19, 20, 21, 22, 23, 24, 25, 1042, 1043, 1044, 1045, 1100001, 1100002, 1100005, 1100003, 1100004] g29) [1024, 11, 12, 13, 14] g37) 1100001 r41 ((if (g29 1021 0) = 0 then 1 else 0))) 1100002 r41 ((17 * (20 - (S 1023 0)) + 17))) 1100005 r41 ((20 - (S 1023 0)))) 1100003 r41 (0 : Int)) := sv_mod.up md54 (by decide)
        have md58 : sv_mod [1020, 1021, 1022, 1023, 5, 1011, 3, 4, 1007, 1009, 11, 12, 13, 14, 1024, 15, 16, 1031, 1032, 17, 18, 19, 20, 21, 22, 23, 24, 25, 1042, 1043, 1044, 1045, 1100001, 1100002, 1100005, 1100003, 1100004] (sv_sts S [1020, 1021, 1022, 1023, 5, 1011, 3, 4, 1007, 1009, 11, 12, 13, 14, 1024, 15, 16, 1031, 1032, 17, 18, 19, 20, 21, 22, 23, 24, 25, 1042, 1043, 1044, 1045, 1100001, 1100002, 1100005, 1100003, 1100004] g5) (sv_up (sv_up (sv_up (sv_up (sv_sts (sv_sts (sv_up (sv_sts (sv_sts S [1020, 1021, 1022, 1023, 5, 1011, 3, 4, 1007, 1009, 11, 12, 13, 14, 1024, 15, 16, 1031, 1032, 17, 18, 19, 20, 21, 22, 23, 24, 25, 1042, 1043, 1044, 1045, 1100001, 1100002, 1100005, 1100003, 1100004] g5) [1020, 1021, 1022, 1023, 5, 1011, 3, 4, 1007, 1009, 11, 12, 13, 14, 1024, 15, 16, 1031, 1032, 17, 18, 19, 20, 21, 22, 23, 24, 25, 1042, 1043, 1044, 1045, 1100001, 1100002, 1100005, 1100003, 1100004] g11) 1020 0 ((g11 1020 0) + (1 : Int))) [1020, 1021, 1022, 1023, 5, 1011, 3, 4, 1007, 1009, 11, 12, 13, 14, 1024, 15, 16, 1031, 1032, 17, 18, 19, 20, 21, 22, 23, 24, 25, 1042, 1043, 1044, 1045, 1100001, 1100002, 1100005, 1100003, 1100004] g29) [1024, 11, 12, 13, 14] g37) 1100001 r41 ((if (g29 1021 0) = 0 then 1 else 0))) 1100002 r41 ((17 * (20 - (S 1023 0)) + 17))) 1100005 r41 ((20 - (S 1023 0)))) 1100003 r41 (0 : Int)) := sv_mod.up md55 (by decide)
        refine sv_ghost sm_X 1100004 r41 (0 : Int) (by decide) ?_
        have ok59 : sm_ok (sv_up (sv_up (sv_up (sv_up (sv_up (sv_sts (sv_sts (sv_up (sv_sts (sv_sts S [1020, 1021, 1022, 1023, 5, 1011, 3, 4, 1007, 1009, 11, 12, 13, 14, 1024, 15, 16, 1031, 1032, 17, 18, 19, 20, 21, 22, 23, 24, 25, 1042, 1043, 1044, 1045, 1100001, 1100002, 1100005, 1100003, 1100004] g5) [1020, 1021, 1022, 1023, 5, 1011, 3, 4, 1007, 1009, 11, 12, 13, 14, 1024, 15, 16, 1031, 1032, 17, 18, 19, 20, 21, 22, 23, 24, 25, 1042, 1043, 1044, 1045, 1100001, 1100002, 1100005, 1100003, 1100004] g11) 1020 0 ((g11 1020 0) + (1 : Int))) [1020, 1021, 1022, 1023, 5, 1011, 3, 4, 1007, 1009, 11, 12, 13, 14, 1024, 15, 16, 1031, 1032, 17, 18, 19, 20, 21, 22, 23, 24, 25, 1042, 1043, 1044, 1045, 1100001, 1100002, 1100005, 1100003, 1100004] g29) [1024, 11, 12, 13, 14] g37) 1100001 r41 ((if (g29 1021 0) = 0 then 1 else 0))) 1100002 r41 ((17 * (20 - (S 1023 0)) + 17))) 1100005 r41 ((20 - (S 1023 0)))) 1100003 r41 (0 : Int)) 1100004 r41 (0 : Int)) := sm_upI ok56 sm_r1100004 (⟨by decide, by decide⟩ : sv_R (0 : Int))
        have md60 : sv_mod [1020, 1021, 1022, 1023, 5, 1011, 3, 4, 1007, 1009, 11, 12, 13, 14, 1024, 15, 16, 1031, 1032, 17, 18, 19, 20, 21, 22, 23, 24, 25, 1042, 1043, 1044, 1045, 1100001, 1100002, 1100005, 1100003, 1100004] S (sv_up (sv_up (sv_up (sv_up (sv_up (sv_sts (sv_sts (sv_up (sv_sts (sv_sts S [1020, 1021, 1022, 1023, 5, 1011, 3, 4, 1007, 1009, 11, 12, 13, 14, 1024, 15, 16, 1031, 1032, 17, 18, 19, 20, 21, 22, 23, 24, 25, 1042, 1043, 1044, 1045, 1100001, 1100002, 1100005, 1100003, 1100004] g5) [1020, 1021, 1022, 1023, 5, 1011, 3, 4, 1007, 1009, 11, 12, 13, 14, 1024, 15, 16, 1031, 1032, 17, 18, 19, 20, 21, 22, 23, 24, 25, 1042, 1043, 1044, 1045, 1100001, 1100002, 1100005, 1100003, 1100004] g11) 1020 0 ((g11 1020 0) + (1 : Int))) [1020, 1021, 1022, 1023, 5, 1011, 3, 4, 1007, 1009, 11, 12, 13, 14, 1024, 15, 16, 1031, 1032, 17, 18, 19, 20, 21, 22, 23, 24, 25, 1042, 1043, 1044, 1045, 1100001, 1100002, 1100005, 1100003, 1100004] g29) [1024, 11, 12, 13, 14] g37) 1100001 r41 ((if (g29 1021 0) = 0 then 1 else 0))) 1100002 r41 ((17 * (20 - (S 1023 0)) + 17))) 1100005 r41 ((20 - (S 1023 0)))) 1100003 r41 (0 : Int)) 1100004 r41 (0 : Int)) := sv_mod.up md57 (by decide)
        have md61 : sv_mod [1020, 1021, 1022, 1023, 5, 1011, 3, 4, 1007, 1009, 11, 12, 13, 14, 1024, 15, 16, 1031, 1032, 17, 18, 19, 20, 21, 22, 23, 24, 25, 1042, 1043, 1044, 1045, 1100001, 1100002, 1100005, 1100003, 1100004] (sv_sts S [1020, 1021, 1022, 1023, 5, 1011, 3, 4, 1007, 1009, 11, 12, 13, 14, 1024, 15, 16, 1031, 1032, 17, 18, 19, 20, 21, 22, 23, 24, 25, 1042, 1043, 1044, 1045, 1100001, 1100002, 1100005, 1100003, 1100004] g5) (sv_up (sv_up (sv_up (sv_up (sv_up (sv_sts (sv_sts (sv_up (sv_sts (sv_sts S [1020, 1021, 1022, 1023, 5, 1011, 3, 4, 1007, 1009, 11, 12, 13, 14, 1024, 15, 16, 1031, 1032, 17, 18, 19, 20, 21, 22, 23, 24, 25, 1042, 1043, 1044, 1045, 1100001, 1100002, 1100005, 1100003, 1100004] g5) [1020, 1021, 1022, 1023, 5, 1011, 3, 4, 1007, 1009, 11, 12, 13, 14, 1024, 15, 16, 1031, 1032, 17, 18, 19, 20, 21, 22, 23, 24, 25, 1042, 1043, 1044, 1045, 1100001, 1100002, 1100005, 1100003, 1100004] g11) 1020 0 ((g11 1020 0) + (1 : Int))) [1020, 1021, 1022, 1023, 5, 1011, 3, 4, 1007, 1009, 11, 12, 13, 14, 1024, 15, 16, 1031, 1032, 17, 18, 19, 20, 21, 22, 23, 24, 25, 1042, 1043, 1044, 1045, 1100001, 1100002, 1100005, 1100003, 1100004] g29) [1024, 11, 12, 13, 14] g37) 1100001 r41 ((if (g29 1021 0) = 0 then 1 else 0))) 1100002 r41 ((17 * (20 - (S 1023 0)) + 17))) 1100005 r41 ((20 - (S 1023 0)))) 1100003 r41 (0 : Int)) 1100004 r41 (0 : Int)) := sv_mod.up md58 (by decide)
        have k62 : (sm_WF (g37 11) (g37 12) (g37 13) (g29 1100001) (g29 1100002) (g29 1100005) (g29 1100003) (g29 1100004) (g37 1024 0) (g29 1007 0) (g29 1009 0) (g29 1032 0) → (g29 1100001 r41) = 0 → 0 ≤ r41 → r41 < (g37 1024 0) → (g37 13 r41) = -1 → ((g29 1021 0) = 0 → (g37 11 r41) = 3 ∧ sm_ex (g29 1100001) (g29 1100002) (g29 1100005) (g37 1024 0) 1 (g37 12 (5 * r41)) (17 * (20 - (S 1023 0)) + 17) (20 - (S 1023 0)) ∧ (g37 12 (5 * r41)) < r41 ∧ sm_ex (g29 1100001) (g29 1100002) (g29 1100005) (g37 1024 0) 1 (g37 12 (5 * r41 + 1)) (17 * (20 - (S 1023 0)) + 17) (20 - (S 1023 0))) → sm_WF (g37 11) (g37 12) (g37 13) (fun i' : Int => if i' = r41 then ((if (g29 1021 0) = 0 then 1 else 0)) else (g29 1100001) i') (fun i' : Int => if i' = r41 then ((17 * (20 - (S 1023 0)) + 17)) else (g29 1100002) i') (fun i' : Int => if i' = r41 then ((20 - (S 1023 0))) else (g29 1100005) i') (fun i' : Int => if i' = r41 then (0 : Int) else (g29 1100003) i') (fun i' : Int => if i' = r41 then (0 : Int) else (g29 1100004) i') (g37 1024 0) (g29 1007 0) (g29 1009 0) (g29 1032 0) ∧ sm_PS (g37 11) (g29 1100001) (g29 1100002) (g29 1100005) (g29 1100003) (g29 1100004) (g37 11) (fun i' : Int => if i' = r41 then ((if (g29 1021 0) = 0 then 1 else 0)) else (g29 1100001) i') (fun i' : Int => if i' = r41 then ((17 * (20 - (S 1023 0)) + 17)) else (g29 1100002) i') (fun i' : Int => if i' = r41 then ((20 - (S 1023 0))) else (g29 1100005) i') (fun i' : Int => if i' = r41 then (0 : Int) else (g29 1100003) i') (fun i' : Int => if i' = r41 then (0 : Int) else (g29 1100004) i') (g37 1024 0)) := fun a1 a2 a3 a4 a5 a6 => sm_mk1 a1 a2 a3 a4 a5 (if hf : (g29 1021 0) = 0 then (by rw [if_pos hf]; obtain ⟨c, c1, c2, c3⟩ := a6 hf; exact Or.inr ⟨rfl, sm_c1_3 c c1 c2 c3⟩) else (by rw [if_neg hf]; exact Or.inl rfl))
        have h := h k62
        refine sv_istore_n hM dX12_expression_44 (by decide) rfl ?_
        show sv_T sm_XS sm_cs sm_L sm_sh (30 * (20 - (S 1023 0)) + 26).toNat (q_expression p1 S) 43 45 [(0, .ref 0), (1, sv_I p1), (2, sv_I r41)] [] (sv_up (sv_up (sv_up (sv_up (sv_up (sv_sts (sv_sts (sv_up (sv_sts (sv_sts S [1020, 1021, 1022, 1023, 5, 1011, 3, 4, 1007, 1009, 11, 12, 13, 14, 1024, 15, 16, 1031, 1032, 17, 18, 19, 20, 21, 22, 23, 24, 25, 1042, 1043, 1044, 1045, 1100001, 1100002, 1100005, 1100003, 1100004] g5) [1020, 1021, 1022, 1023, 5, 1011, 3, 4, 1007, 1009, 11, 12, 13, 14, 1024, 15, 16, 1031, 1032, 17, 18, 19, 20, 21, 22, 23, 24, 25, 1042, 1043, 1044, 1045, 1100001, 1100002, 1100005, 1100003, 1100004] g11) 1020 0 ((g11 1020 0) + (1 : Int))) [1020, 1021, 1022, 1023, 5, 1011, 3, 4, 1007, 1009, 11, 12, 13, 14, 1024, 15, 16, 1031, 1032, 17, 18, 19, 20, 21, 22, 23, 24, 25, 1042, 1043, 1044, 1045, 1100001, 1100002, 1100005, 1100003, 1100004] g29) [1024, 11, 12, 13, 14] g37) 1100001 r41 ((if (g29 1021 0) = 0 then 1 else 0))) 1100002 r41 ((17 * (20 - (S 1023 0)) + 17))) 1100005 r41 ((20 - (S 1023 0)))) 1100003 r41 (0 : Int)) 1100004 r41 (0 : Int))
        refine sv_goto hM dX12_expression_45 (pc' := 6) rfl ?_
        have eS := sv_mod.eq md61
        have hb := ih13 (r41, (sv_up (sv_up (sv_up (sv_up (sv_up (sv_sts (sv_sts (sv_up (sv_sts (sv_sts S [1020, 1021, 1022, 1023, 5, 1011, 3, 4, 1007, 1009, 11, 12, 13, 14, 1024, 15, 16, 1031, 1032, 17, 18, 19, 20, 21, 22, 23, 24, 25, 1042, 1043, 1044, 1045, 1100001, 1100002, 1100005, 1100003, 1100004] g5) [1020, 1021, 1022, 1023, 5, 1011, 3, 4, 1007, 1009, 11, 12, 13, 14, 1024, 15, 16, 1031, 1032, 17, 18, 19, 20, 21, 22, 23, 24, 25, 1042, 1043, 1044, 1045, 1100001, 1100002, 1100005, 1100003, 1100004] g11) 1020 0 ((g11 1020 0) + (1 : Int))) [1020, 1021, 1022, 1023, 5, 1011, 3, 4, 1007, 1009, 11, 12, 13, 14, 1024, 15, 16, 1031, 1032, 17, 18, 19, 20, 21, 22, 23, 24, 25, 1042, 1043, 1044, 1045, 1100001, 1100002, 1100005, 1100003, 1100004] g29) [1024, 11, 12, 13, 14] g37) 1100001 r41 ((if (g29 1021 0) = 0 then 1 else 0))) 1100002 r41 ((17 * (20 - (S 1023 0)) + 17))) 1100005 r41 ((20 - (S 1023 0)))) 1100003 r41 (0 : Int)) 1100004 r41 (0 : Int))) ⟨hr41, (by rw [← eS]; exact ok59), h.1⟩ h.2
        have hb : sv_T sm_XS sm_cs sm_L sm_sh (30 * (20 - (S 1023 0)) + 26).toNat (q_expression p1 S) 43 6 [(0, .ref 0), (1, sv_I p1), (2, sv_I r41)] [] (sv_up (sv_up (sv_up (sv_up (sv_up (sv_sts (sv_sts (sv_up (sv_sts (sv_sts S [1020, 1021, 1022, 1023, 5, 1011, 3, 4, 1007, 1009, 11, 12, 13, 14, 1024, 15, 16, 1031, 1032, 17, 18, 19, 20, 21, 22, 23, 24, 25, 1042, 1043, 1044, 1045, 1100001, 1100002, 1100005, 1100003, 1100004] g5) [1020, 1021, 1022, 1023, 5, 1011, 3, 4, 1007, 1009, 11, 12, 13, 14, 1024, 15, 16, 1031, 1032, 17, 18, 19, 20, 21, 22, 23, 24, 25, 1042, 1043, 1044, 1045, 1100001, 1100002, 1100005, 1100003, 1100004] g11) 1020 0 ((g11 1020 0) + (1 : Int))) [1020, 1021, 1022, 1023, 5, 1011, 3, 4, 1007, 1009, 11, 12, 13, 14, 1024, 15, 16, 1031, 1032, 17, 18, 19, 20, 21, 22, 23, 24, 25, 1042, 1043, 1044, 1045, 1100001, 1100002, 1100005, 1100003, 1100004] g29) [1024, 11, 12, 13, 14] g37) 1100001 r41 ((if (g29 1021 0) = 0 then 1 else 0))) 1100002 r41 ((17 * (20 - (S 1023 0)) + 17))) 1100005 r41 ((20 - (S 1023 0)))) 1100003 r41 (0 : Int)) 1100004 r41 (0 : Int)) := Eq.mpr (congrArg (fun Z => sv_T sm_XS sm_cs sm_L sm_sh (30 * (20 - (S 1023 0)) + 26).toNat (q_expression p1 S) 43 6 [(0, .ref 0), (1, sv_I p1), (2, sv_I r41)] [] Z) eS) hb
        exact sv_less (lv := [(0, .ref 0), (1, sv_I p1), (2, sv_I r41)]) (sv_Sub_cons rfl (sv_Sub_cons rfl (sv_Sub_cons rfl sv_Sub_nil))) hb
  have eS := sv_mod.eq (sv_mod.rf (l := [1020, 1021, 1022, 1023, 5, 1011, 3, 4, 1007, 1009, 11, 12, 13, 14, 1024, 15, 16, 1031, 1032, 17, 18, 19, 20, 21, 22, 23, 24, 25, 1042, 1043, 1044, 1045, 1100001, 1100002, 1100005, 1100003, 1100004]) (S := (sv_sts S [1020, 1021, 1022, 1023, 5, 1011, 3, 4, 1007, 1009, 11, 12, 13, 14, 1024, 15, 16, 1031, 1032, 17, 18, 19, 20, 21, 22, 23, 24, 25, 1042, 1043, 1044, 1045, 1100001, 1100002, 1100005, 1100003, 1100004] g5)))
  have hb := hJ (r9, (sv_sts S [1020, 1021, 1022, 1023, 5, 1011, 3, 4, 1007, 1009, 11, 12, 13, 14, 1024, 15, 16, 1031, 1032, 17, 18, 19, 20, 21, 22, 23, 24, 25, 1042, 1043, 1044, 1045, 1100001, 1100002, 1100005, 1100003, 1100004] g5)) ⟨hr9, (by rw [← eS]; exact ok6), hin14⟩
  have hb : sv_T sm_XS sm_cs sm_L sm_sh (30 * (20 - (S 1023 0)) + 26).toNat (q_expression p1 S) 43 6 [(0, .ref 0), (1, sv_I p1), (2, sv_I r9)] [] (sv_sts S [1020, 1021, 1022, 1023, 5, 1011, 3, 4, 1007, 1009, 11, 12, 13, 14, 1024, 15, 16, 1031, 1032, 17, 18, 19, 20, 21, 22, 23, 24, 25, 1042, 1043, 1044, 1045, 1100001, 1100002, 1100005, 1100003, 1100004] g5) := Eq.mpr (congrArg (fun Z => sv_T sm_XS sm_cs sm_L sm_sh (30 * (20 - (S 1023 0)) + 26).toNat (q_expression p1 S) 43 6 [(0, .ref 0), (1, sv_I p1), (2, sv_I r9)] [] Z) eS) hb
  exact hb
theorem la_opened_0 {x0 x1 : Int} (h0 : 0 ≤ x0) (h1 : x0 < x1) (h2 : x1 ≤ 4001) : 0 ≤ x0 ∧ x0 ≤ 4000 := by omega
theorem la_opened_1 {x0 x1 x2 x3 x4 x5 x6 : Int} (h0 : 0 ≤ x0) (h1 : x0 = 0 → 0 ≤ x1 ∧ x1 ≤ 20 ∧ x2 ≤ 3 * x1 + 5 ∧ x3 ≤ 2 * x4 ∧ x5 ≤ x1 ∧ x6 ≤ x1) (h2 : x0 = 0) : 2 + 1 ≤ 30 * (20 - x1) + 14 := by omega
theorem la_opened_2 {x0 : Int} (h0 : x0 = 0 ∨ x0 = 1) : 0 ≤ x0 ∧ x0 ≤ 1 := by omega
theorem la_opened_3 {x0 x1 x2 x3 x4 x5 x6 x7 : Int} (h0 : 0 ≤ x0) (h1 : x0 < x1) (h2 : x1 ≤ 4001) (h3 : 0 ≤ x2) (h4 : x2 = 0 → 0 ≤ x3 ∧ x3 ≤ 20 ∧ x4 ≤ 3 * x3 + 5 ∧ x5 ≤ 2 * x0 ∧ x6 ≤ x3 ∧ x7 ≤ x3) : 0 ≤ x0 ∧ x0 ≤ 4000 ∧ 0 ≤ x2 ∧ (x2 = 0 → 0 ≤ x3 ∧ x3 ≤ 20) := by omega
theorem la_opened_4 {x0 x1 x2 x3 x4 x5 x6 : Int} (h0 : 0 ≤ x0) (h1 : x0 = 0 → 0 ≤ x1 ∧ x1 ≤ 20 ∧ x2 ≤ 3 * x1 + 5 ∧ x3 ≤ 2 * x4 ∧ x5 ≤ x1 ∧ x6 ≤ x1) (h2 : x0 = 0) : 1 + 1 ≤ 30 * (20 - x1) + 14 := by omega
theorem la_opened_5 {x0 : Int} (h0 : 0 ≤ x0) (h1 : x0 ≤ 1) : 0 ≤ x0 ∧ x0 ≤ 1 := by omega
theorem la_opened_6 {x0 x1 x2 x3 x4 x5 x6 x7 x8 x9 x10 x11 : Int} (h0 : 0 ≤ x0) (h1 : 0 ≤ x1) (h2 : x1 < x2) (h3 : x2 ≤ 1 + x3) (h4 : 0 ≤ x4) (h5 : x4 ≤ 100) (h6 : 0 ≤ x5) (h7 : x5 ≤ 30) (h8 : 0 ≤ x6) (h9 : x6 ≤ 30) (h10 : 0 ≤ x7) (h11 : x0 = 0 → 0 ≤ x8 ∧ x8 ≤ 20 ∧ x4 ≤ 3 * x8 + 5 ∧ x7 ≤ 2 * x3 ∧ x5 ≤ x8 ∧ x6 ≤ x8) (h12 : x0 = 0) (h13 : x9 = 0 → x0 = 0 ∧ x10 = x8 + 1 ∧ x8 < 20 ∧ x11 = 1) : 0 ≤ x1 ∧ x1 < x2 ∧ x2 ≤ 1 + x3 ∧ 0 ≤ x4 ∧ x4 ≤ 100 ∧ 0 ≤ x5 ∧ x5 ≤ 30 ∧ 0 ≤ x6 ∧ x6 ≤ 30 ∧ 0 ≤ x7 ∧ (x9 = 0 → 0 ≤ x10 ∧ x10 ≤ 20 ∧ x4 ≤ 3 * x10 + 5 ∧ x7 ≤ 2 * x3 ∧ x5 ≤ x10 ∧ x6 ≤ x10) := by omega
theorem la_opened_7 {x0 : Int} (h0 : x0 = 12) : 0 ≤ x0 := by omega
theorem la_opened_8 {x0 x1 x2 x3 x4 x5 : Int} (h0 : 0 ≤ x0) (h1 : x0 = 0 → x1 = 0 ∧ x2 = x3 + 1 ∧ x3 < 20 ∧ x4 = 1) (h2 : ¬ 0 < x0) (h3 : x5 = 30 * (20 - x2) + 25) : 0 ≤ x5 := by omega
theorem la_opened_9 {x0 x1 x2 x3 x4 x5 x6 x7 x8 : Int} (h0 : 0 ≤ x0) (h1 : x0 = 0 → 0 ≤ x1 ∧ x1 ≤ 20 ∧ x2 ≤ 3 * x1 + 5 ∧ x3 ≤ 2 * x4 ∧ x5 ≤ x1 ∧ x6 ≤ x1) (h2 : x0 = 0) (h3 : 30 * (20 - x1) + 14 = x7) (h4 : x8 = 12) : x8 < x7 := by omega
theorem la_opened_10 {x0 x1 x2 x3 x4 x5 x6 : Int} (h0 : 30 * (20 - x0) + 14 = x1) (h1 : 0 ≤ x2) (h2 : x2 = 0 → x3 = 0 ∧ x4 = x0 + 1 ∧ x0 < 20 ∧ x5 = 1) (h3 : ¬ 0 < x2) (h4 : x6 = 30 * (20 - x4) + 25) : x6 < x1 := by omega
theorem la_opened_11 {x0 x1 x2 x3 x4 x5 x6 x7 : Int} (h0 : 0 ≤ x0) (h1 : x0 = 0 → 0 ≤ x1 ∧ x1 ≤ 20 ∧ x2 ≤ 3 * x1 + 5 ∧ x3 ≤ 2 * x4 ∧ x5 ≤ x1 ∧ x6 ≤ x1) (h2 : x0 = 0) (h3 : x7 = 12) : x7 + 1 ≤ 30 * (20 - x1) + 14 := by omega
theorem la_opened_12 {x0 x1 x2 x3 x4 x5 : Int} (h0 : 0 ≤ x0) (h1 : x0 = 0 → x1 = 0 ∧ x2 = x3 + 1 ∧ x3 < 20 ∧ x4 = 1) (h2 : ¬ 0 < x0) (h3 : x5 = 30 * (20 - x2) + 25) : x5 + 1 ≤ 30 * (20 - x3) + 14 := by omega
theorem la_opened_13 {x0 x1 x2 x3 x4 x5 x6 : Int} (h0 : 0 ≤ x0) (h1 : x0 = 0 → 0 ≤ x1 ∧ x1 ≤ 20 ∧ x2 ≤ 3 * x1 + 5 ∧ x3 ≤ 2 * x4 ∧ x5 ≤ x1 ∧ x6 ≤ x1) (h2 : x0 = 0) : 0 + 1 ≤ 30 * (20 - x1) + 14 := by omega
theorem la_opened_14 {x0 x1 : Int} (h0 : x0 = 0) : 0 < x0 → 0 < x1 := by omega
theorem la_opened_15 {x0 x1 x2 x3 x4 x5 x6 x7 x8 x9 x10 x11 x12 x13 x14 : Int} (h0 : 0 ≤ x0) (h1 : x0 = 0 → 0 ≤ x1 ∧ x1 ≤ 20 ∧ x2 ≤ 3 * x1 + 5 ∧ x3 ≤ 2 * x4 ∧ x5 ≤ x1 ∧ x6 ≤ x1) (h2 : x0 = 0) (h3 : 0 ≤ x7) (h4 : x7 = 0 → x0 = 0 ∧ x8 = x1 + 1 ∧ x1 < 20 ∧ x9 = 1) (h5 : 0 < x7 → 0 < x10) (h6 : x10 = 0 → x11 = x8 ∧ x12 + 1 ≤ x3 + 2 * (x13 - x4)) (h7 : sv_R (x11 - 1) → x14 = x11 - 1) : x10 = 0 → x14 = x1 ∧ x12 + 1 ≤ x3 + 2 * (x13 - x4) := by omega
theorem la_opened_16 {x0 : Int} (h0 : 0 < x0) : ¬ x0 = 0 := by omega
theorem la_opened_17 {x0 x1 x2 x3 x4 x5 x6 x7 x8 x9 x10 x11 x12 x13 : Int} (h0 : 0 ≤ x0) (h1 : x0 = 0 → 0 ≤ x1 ∧ x1 ≤ 20 ∧ x2 ≤ 3 * x1 + 5 ∧ x3 ≤ 2 * x4 ∧ x5 ≤ x1 ∧ x6 ≤ x1) (h2 : x0 = 0) (h3 : 0 < x7 → 0 < x8) (h4 : x8 = 0 → x9 = x10 ∧ x11 + 1 ≤ x3 + 2 * (x12 - x4)) (h5 : 0 < x8 → x11 ≤ x3 + 2 * (x12 - x4) + 2 * x13) (h6 : 0 < x7) (h7 : x13 = 12) : x11 ≤ x3 + 2 * (x12 - x4) + 2 * (30 * (20 - x1) + 14) := by omega
theorem la_opened_18 {x0 x1 x2 x3 x4 x5 x6 x7 x8 x9 x10 x11 : Int} (h0 : 0 ≤ x0) (h1 : x0 = 0 → x1 = 0 ∧ x2 = x3 + 1 ∧ x3 < 20 ∧ x4 = 1) (h2 : x5 = 0 → x6 = x2 ∧ x7 + 1 ≤ x8 + 2 * (x9 - x10)) (h3 : 0 < x5 → x7 ≤ x8 + 2 * (x9 - x10) + 2 * x11) (h4 : 0 < x5) (h5 : ¬ 0 < x0) (h6 : x11 = 30 * (20 - x2) + 25) : x7 ≤ x8 + 2 * (x9 - x10) + 2 * (30 * (20 - x3) + 14) := by omega
theorem la_opened_19 {x0 x1 : Int} (h0 : 0 < x0 → 0 < x1) (h1 : x1 = 0) : ¬ 0 < x0 := by omega
theorem la_opened_20 {x0 x1 x2 x3 x4 x5 : Int} (h0 : 0 ≤ x0) (h1 : x0 = 0 → x1 = 0 ∧ x2 = x3 + 1 ∧ x3 < 20 ∧ x4 = 1) (h2 : 0 < x0 → 0 < x5) (h3 : x5 = 0) : 17 * (20 - x2) + 17 ≤ 17 * (20 - x3) := by omega
theorem la_opened_21 {x0 x1 x2 x3 x4 x5 : Int} (h0 : 0 ≤ x0) (h1 : x0 = 0 → x1 = 0 ∧ x2 = x3 + 1 ∧ x3 < 20 ∧ x4 = 1) (h2 : 0 < x0 → 0 < x5) (h3 : x5 = 0) : 20 - x2 ≤ 19 - x3 := by omega
set_option maxHeartbeats 8000000 in
theorem f_opened : ∀ (d : Int) (p1 : Int) (S : sv_S), sm_ok S → (0 ≤ p1 ∧ p1 ≤ 1) → (0 ≤ (S 1020 0) ∧ (S 1020 0) < (S 1012 0) ∧ sm_TK (S 6) (S 8) (S 9) (S 10) (S 1012 0) ∧ 0 ≤ (S 1021 0) ∧ 0 ≤ (S 1004 0) ∧ (S 1004 0) ≤ 4000 ∧ 0 ≤ (S 1007 0) ∧ (S 1007 0) ≤ 90 ∧ sm_LN (S 4) (S 1007 0) ∧ sm_WF (S 11) (S 12) (S 13) (S 1100001) (S 1100002) (S 1100005) (S 1100003) (S 1100004) (S 1024 0) (S 1007 0) (S 1009 0) (S 1032 0) ∧ sm_HD (S 23) (S 24) (S 1032 0) (S 1007 0) ∧ sm_HD (S 25) (fun _ : Int => (S 1042 0)) 1 (S 1007 0) ∧ 0 ≤ (S 1043 0) ∧ (S 1043 0) < (S 1032 0) ∧ (S 1032 0) ≤ 1 + (S 1020 0) ∧ 0 ≤ (S 1031 0) ∧ (S 1031 0) ≤ 100 ∧ 0 ≤ (S 1044 0) ∧ (S 1044 0) ≤ 30 ∧ 0 ≤ (S 1045 0) ∧ (S 1045 0) ≤ 30 ∧ 0 ≤ (S 1024 0) ∧ ((S 1021 0) = 0 → 0 ≤ (S 1023 0) ∧ (S 1023 0) ≤ 20 ∧ (S 1031 0) ≤ 3 * (S 1023 0) + 5 ∧ (S 1024 0) ≤ 2 * (S 1020 0) ∧ (S 1044 0) ≤ (S 1023 0) ∧ (S 1045 0) ≤ (S 1023 0)) ∧ (S 1021 0) = 0) → (30 * (20 - (S 1023 0)) + 14) = d → (0 ≤ (S 1020 0) ∧ (S 1020 0) ≤ 4000) ∧ (2 + 1 ≤ (30 * (20 - (S 1023 0)) + 14)) ∧ (∀ r7 : Int, sv_R r7 → ((r7 = 0 ∨ r7 = 1) ∧ (r7 = 1 → 1 ≤ (S 6 (S 1020 0)) ∧ (S 6 (S 1020 0)) ≤ 5)) → (0 ≤ r7 ∧ r7 ≤ 1) ∧ (0 ≤ (S 1020 0) ∧ (S 1020 0) ≤ 4000 ∧ 0 ≤ (S 1021 0) ∧ ((S 1021 0) = 0 → 0 ≤ (S 1023 0) ∧ (S 1023 0) ≤ 20)) ∧ (1 + 1 ≤ (30 * (20 - (S 1023 0)) + 14)) ∧ (∀ g11 : sv_S, (0 ≤ (g11 1021 0) ∧ (0 < (S 1021 0) → 0 < (g11 1021 0)) ∧ ((g11 1021 0) = 0 → (S 1021 0) = 0 ∧ (g11 1023 0) = (S 1023 0) + 1 ∧ (S 1023 0) < 20 ∧ r7 = 1)) → (0 ≤ p1 ∧ p1 ≤ 1) ∧ (0 ≤ (S 1020 0) ∧ (S 1020 0) < (S 1012 0) ∧ sm_TK (S 6) (S 8) (S 9) (S 10) (S 1012 0) ∧ 0 ≤ (g11 1021 0) ∧ 0 ≤ (S 1004 0) ∧ (S 1004 0) ≤ 4000 ∧ 0 ≤ (S 1007 0) ∧ (S 1007 0) ≤ 90 ∧ sm_LN (S 4) (S 1007 0) ∧ sm_WF (S 11) (S 12) (S 13) (S 1100001) (S 1100002) (S 1100005) (S 1100003) (S 1100004) (S 1024 0) (S 1007 0) (S 1009 0) (S 1032 0) ∧ sm_HD (S 23) (S 24) (S 1032 0) (S 1007 0) ∧ sm_HD (S 25) (fun _ : Int => (S 1042 0)) 1 (S 1007 0) ∧ 0 ≤ (S 1043 0) ∧ (S 1043 0) < (S 1032 0) ∧ (S 1032 0) ≤ 1 + (S 1020 0) ∧ 0 ≤ (S 1031 0) ∧ (S 1031 0) ≤ 100 ∧ 0 ≤ (S 1044 0) ∧ (S 1044 0) ≤ 30 ∧ 0 ≤ (S 1045 0) ∧ (S 1045 0) ≤ 30 ∧ 0 ≤ (S 1024 0) ∧ ((g11 1021 0) = 0 → 0 ≤ (g11 1023 0) ∧ (g11 1023 0) ≤ 20 ∧ (S 1031 0) ≤ 3 * (g11 1023 0) + 5 ∧ (S 1024 0) ≤ 2 * (S 1020 0) ∧ (S 1044 0) ≤ (g11 1023 0) ∧ (S 1045 0) ≤ (g11 1023 0))) ∧ (0 ≤ ((if 0 < (g11 1021 0) then 12 else 30 * (20 - (g11 1023 0)) + 25)) ∧ ((if 0 < (g11 1021 0) then 12 else 30 * (20 - (g11 1023 0)) + 25)) < d) ∧ (0 ≤ ((if 0 < (g11 1021 0) then 12 else 30 * (20 - (g11 1023 0)) + 25)) ∧ ((if 0 < (g11 1021 0) then 12 else 30 * (20 - (g11 1023 0)) + 25)) + 1 ≤ (30 * (20 - (S 1023 0)) + 14)) ∧ (∀ r24 : Int, sv_R r24 → ∀ g20 : sv_S, ((S 1020 0) ≤ (g20 1020 0) ∧ (g20 1020 0) < (S 1012 0) ∧ 0 ≤ (g20 1021 0) ∧ (0 < (g11 1021 0) → 0 < (g20 1021 0)) ∧ (S 1007 0) ≤ (g20 1007 0) ∧ (g20 1007 0) ≤ 90 ∧ sm_LN (g20 4) (g20 1007 0) ∧ ((S 1009 0) = 1 → (g20 1009 0) = 1) ∧ sm_WF (g20 11) (g20 12) (g20 13) (g20 1100001) (g20 1100002) (g20 1100005) (g20 1100003) (g20 1100004) (g20 1024 0) (g20 1007 0) (g20 1009 0) (g20 1032 0) ∧ sm_PS (S 11) (S 1100001) (S 1100002) (S 1100005) (S 1100003) (S 1100004) (g20 11) (g20 1100001) (g20 1100002) (g20 1100005) (g20 1100003) (g20 1100004) (S 1024 0) ∧ sm_KL (S 15) (S 16) (g20 15) (g20 16) (S 1031 0) ∧ sm_HD (g20 23) (g20 24) (g20 1032 0) (g20 1007 0) ∧ sm_HD (g20 25) (fun _ : Int => (g20 1042 0)) 1 (g20 1007 0) ∧ (g20 1031 0) = (S 1031 0) ∧ (g20 1043 0) = (S 1043 0) ∧ (g20 1044 0) = (S 1044 0) ∧ (g20 1045 0) = (S 1045 0) ∧ (S 1032 0) ≤ (g20 1032 0) ∧ (g20 1032 0) ≤ 1 + (g20 1020 0) ∧ (S 1024 0) ≤ (g20 1024 0) ∧ ((g20 1021 0) = 0 → (g20 1023 0) = (g11 1023 0) ∧ (g20 1024 0) + 1 ≤ (S 1024 0) + 2 * ((g20 1020 0) - (S 1020 0))) ∧ (0 < (g20 1021 0) → (g20 1024 0) ≤ (S 1024 0) + 2 * ((g20 1020 0) - (S 1020 0)) + 2 * ((if 0 < (g11 1021 0) then 12 else 30 * (20 - (g11 1023 0)) + 25))) ∧ -1 ≤ r24 ∧ r24 < 12000 ∧ ((g20 1021 0) = 0 → (S 1020 0) < (g20 1020 0) ∧ 1 ≤ (S 6 (S 1020 0)) ∧ sm_ex (g20 1100001) (g20 1100002) (g20 1100005) (g20 1024 0) 1 r24 (17 * (20 - (g11 1023 0)) + 17) (20 - (g11 1023 0)) ∧ ((g20 11 r24) = 2 ∨ (g20 11 r24) = 7 → (g20 1100002 r24) ≤ 17 * (20 - (g11 1023 0)) + 2)) ∧ (0 < (g11 1021 0) → (g20 1020 0) = (S 1020 0) ∧ (g20 1024 0) = (S 1024 0))) → (0 + 1 ≤ (30 * (20 - (S 1023 0)) + 14)) ∧ (∀ g27 : sv_S, ((sv_R ((g20 1023 0) - 1) → (g27 1023 0) = (g20 1023 0) - 1)) → ((S 1020 0) ≤ (g20 1020 0) ∧ (g20 1020 0) < (S 1012 0) ∧ 0 ≤ (g20 1021 0) ∧ (0 < (S 1021 0) → 0 < (g20 1021 0)) ∧ (S 1007 0) ≤ (g20 1007 0) ∧ (g20 1007 0) ≤ 90 ∧ sm_LN (g20 4) (g20 1007 0) ∧ ((S 1009 0) = 1 → (g20 1009 0) = 1) ∧ sm_WF (g20 11) (g20 12) (g20 13) (g20 1100001) (g20 1100002) (g20 1100005) (g20 1100003) (g20 1100004) (g20 1024 0) (g20 1007 0) (g20 1009 0) (g20 1032 0) ∧ sm_PS (S 11) (S 1100001) (S 1100002) (S 1100005) (S 1100003) (S 1100004) (g20 11) (g20 1100001) (g20 1100002) (g20 1100005) (g20 1100003) (g20 1100004) (S 1024 0) ∧ sm_KL (S 15) (S 16) (g20 15) (g20 16) (S 1031 0) ∧ sm_HD (g20 23) (g20 24) (g20 1032 0) (g20 1007 0) ∧ sm_HD (g20 25) (fun _ : Int => (g20 1042 0)) 1 (g20 1007 0) ∧ (g20 1031 0) = (S 1031 0) ∧ (g20 1043 0) = (S 1043 0) ∧ (g20 1044 0) = (S 1044 0) ∧ (g20 1045 0) = (S 1045 0) ∧ (S 1032 0) ≤ (g20 1032 0) ∧ (g20 1032 0) ≤ 1 + (g20 1020 0) ∧ (S 1024 0) ≤ (g20 1024 0) ∧ ((g20 1021 0) = 0 → (g27 1023 0) = (S 1023 0) ∧ (g20 1024 0) + 1 ≤ (S 1024 0) + 2 * ((g20 1020 0) - (S 1020 0))) ∧ (0 < (g20 1021 0) → (g20 1024 0) ≤ (S 1024 0) + 2 * ((g20 1020 0) - (S 1020 0)) + 2 * (30 * (20 - (S 1023 0)) + 14)) ∧ -1 ≤ r24 ∧ r24 < 12000 ∧ ((g20 1021 0) = 0 → sm_ex (g20 1100001) (g20 1100002) (g20 1100005) (g20 1024 0) 1 r24 (17 * (20 - (S 1023 0))) (19 - (S 1023 0)) ∧ (S 1020 0) < (g20 1020 0))))))) := by
  intro d
  intro p1
  intro S
  intro h1_
  rintro ⟨h2_, h3_⟩
  rintro ⟨h4_, ⟨h5_, ⟨h6_, ⟨h7_, ⟨h8_, ⟨h9_, ⟨h10_, ⟨h11_, ⟨h12_, ⟨h13_, ⟨h14_, ⟨h15_, ⟨h16_, ⟨h17_, ⟨h18_, ⟨h19_, ⟨h20_, ⟨h21_, ⟨h22_, ⟨h23_, ⟨h24_, ⟨h25_, ⟨h26_, h27_⟩⟩⟩⟩⟩⟩⟩⟩⟩⟩⟩⟩⟩⟩⟩⟩⟩⟩⟩⟩⟩⟩⟩
  intro h28_
  refine ⟨(la_opened_0 h4_ h5_ (sm_TK_t h6_).2), ?_⟩
  refine ⟨(la_opened_1 h7_ h26_ h27_), ?_⟩
  intro r7
  intro h29_
  rintro ⟨h30_, h31_⟩
  refine ⟨(la_opened_2 h30_), ?_⟩
  refine ⟨(la_opened_3 h4_ h5_ (sm_TK_t h6_).2 h7_ h26_), ?_⟩
  refine ⟨(la_opened_4 h7_ h26_ h27_), ?_⟩
  intro g11
  rintro ⟨h32_, ⟨h33_, h34_⟩⟩
  refine ⟨(la_opened_5 h2_ h3_), ?_⟩
  refine ⟨⟨h4_, ⟨h5_, ⟨h6_, ⟨h32_, ⟨h8_, ⟨h9_, ⟨h10_, ⟨h11_, ⟨h12_, ⟨h13_, ⟨h14_, ⟨h15_, (la_opened_6 h7_ h16_ h17_ h18_ h19_ h20_ h21_ h22_ h23_ h24_ h25_ h26_ h27_ h34_)⟩⟩⟩⟩⟩⟩⟩⟩⟩⟩⟩⟩, ?_⟩
  refine ⟨?_, ?_⟩
  · skip
    refine ⟨?_, ?_⟩
    · skip
      by_cases c35_ : 0 < g11 1021 0
      · skip
        have e36_ : (if 0 < g11 1021 0 then 12 else 30 * (20 - g11 1023 0) + 25 : Int) = 12 := if_pos c35_
        exact (la_opened_7 e36_)
      · skip
        have e37_ : (if 0 < g11 1021 0 then 12 else 30 * (20 - g11 1023 0) + 25 : Int) = 30 * (20 - g11 1023 0) + 25 := if_neg c35_
        exact (la_opened_8 h32_ h34_ c35_ e37_)
    by_cases c38_ : 0 < g11 1021 0
    · skip
      have e39_ : (if 0 < g11 1021 0 then 12 else 30 * (20 - g11 1023 0) + 25 : Int) = 12 := if_pos c38_
      exact (la_opened_9 h7_ h26_ h27_ h28_ e39_)
    · skip
      have e40_ : (if 0 < g11 1021 0 then 12 else 30 * (20 - g11 1023 0) + 25 : Int) = 30 * (20 - g11 1023 0) + 25 := if_neg c38_
      exact (la_opened_10 h28_ h32_ h34_ c38_ e40_)
  refine ⟨?_, ?_⟩
  · skip
    refine ⟨?_, ?_⟩
    · skip
      by_cases c41_ : 0 < g11 1021 0
      · skip
        have e42_ : (if 0 < g11 1021 0 then 12 else 30 * (20 - g11 1023 0) + 25 : Int) = 12 := if_pos c41_
        exact (la_opened_7 e42_)
      · skip
        have e43_ : (if 0 < g11 1021 0 then 12 else 30 * (20 - g11 1023 0) + 25 : Int) = 30 * (20 - g11 1023 0) + 25 := if_neg c41_
        exact (la_opened_8 h32_ h34_ c41_ e43_)
    by_cases c44_ : 0 < g11 1021 0
    · skip
      have e45_ : (if 0 < g11 1021 0 then 12 else 30 * (20 - g11 1023 0) + 25 : Int) = 12 := if_pos c44_
      exact (la_opened_11 h7_ h26_ h27_ e45_)
    · skip
      have e46_ : (if 0 < g11 1021 0 then 12 else 30 * (20 - g11 1023 0) + 25 : Int) = 30 * (20 - g11 1023 0) + 25 := if_neg c44_
      exact (la_opened_12 h32_ h34_ c44_ e46_)
  intro r24
  intro h47_
  intro g20
  rintro ⟨h48_, ⟨h49_, ⟨h50_, ⟨h51_, ⟨h52_, ⟨h53_, ⟨h54_, ⟨h55_, ⟨h56_, ⟨h57_, ⟨h58_, ⟨h59_, ⟨h60_, ⟨h61_, ⟨h62_, ⟨h63_, ⟨h64_, ⟨h65_, ⟨h66_, ⟨h67_, ⟨h68_, ⟨h69_, ⟨h70_, ⟨h71_, ⟨h72_, h73_⟩⟩⟩⟩⟩⟩⟩⟩⟩⟩⟩⟩⟩⟩⟩⟩⟩⟩⟩⟩⟩⟩⟩⟩⟩
  refine ⟨(la_opened_13 h7_ h26_ h27_), ?_⟩
  intro g27
  intro h74_
  refine ⟨h48_, ?_⟩
  refine ⟨h49_, ?_⟩
  refine ⟨h50_, ?_⟩
  refine ⟨(la_opened_14 h27_), ?_⟩
  refine ⟨h52_, ?_⟩
  refine ⟨h53_, ?_⟩
  refine ⟨h54_, ?_⟩
  refine ⟨h55_, ?_⟩
  refine ⟨h56_, ?_⟩
  refine ⟨h57_, ?_⟩
  refine ⟨h58_, ?_⟩
  refine ⟨h59_, ?_⟩
  refine ⟨h60_, ?_⟩
  refine ⟨h61_, ?_⟩
  refine ⟨h62_, ?_⟩
  refine ⟨h63_, ?_⟩
  refine ⟨h64_, ?_⟩
  refine ⟨h65_, ?_⟩
  refine ⟨h66_, ?_⟩
  refine ⟨h67_, ?_⟩
  refine ⟨(la_opened_15 h7_ h26_ h27_ h32_ h34_ h51_ h68_ h74_), ?_⟩
  refine ⟨?_, ?_⟩
  · skip
    intro h75_
    by_cases c76_ : 0 < g11 1021 0
    · skip
      have e77_ : (if 0 < g11 1021 0 then 12 else 30 * (20 - g11 1023 0) + 25 : Int) = 12 := if_pos c76_
      exact (la_opened_17 h7_ h26_ h27_ h51_ h68_ h69_ c76_ e77_)
    · skip
      have e78_ : (if 0 < g11 1021 0 then 12 else 30 * (20 - g11 1023 0) + 25 : Int) = 30 * (20 - g11 1023 0) + 25 := if_neg c76_
      exact (la_opened_18 h32_ h34_ h68_ h69_ h75_ c76_ e78_)
  refine ⟨h70_, ?_⟩
  refine ⟨h71_, ?_⟩
  intro h79_
  have e80_ : (if 0 < g11 1021 0 then 12 else 30 * (20 - g11 1023 0) + 25 : Int) = 30 * (20 - g11 1023 0) + 25 := if_neg (la_opened_19 h51_ h79_)
  obtain ⟨h81_, ⟨h82_, ⟨h83_, h84_⟩⟩⟩ := (h72_ h79_)
  refine ⟨(sm_ex_w h83_ (la_opened_20 h32_ h34_ h51_ h79_) (la_opened_21 h32_ h34_ h51_ h79_)), ?_⟩
  exact h81_
set_option maxRecDepth 8000 in
set_option maxHeartbeats 2000000 in
theorem s_opened (d : Int) (h0 : 0 ≤ d) (IH : ∀ d' : Int, 0 ≤ d' → d' < d → P_P d') : T_opened d := by
  intro p1 S hok hp1 hpre hd
  have h := f_opened d p1 S hok hp1 hpre hd
  have hM := sm_h46
  show sv_T sm_XS sm_cs sm_L sm_sh (30 * (20 - (S 1023 0)) + 14).toNat (q_opened p1 S) 46 0 [(0, .ref 0), (1, sv_I p1)] [] S
  refine sv_aload_n hM dX12_opened_0 rfl rfl ?_
  refine sv_aload_n hM dX12_opened_1 rfl rfl ?_
  obtain ⟨o1, h⟩ := h
  obtain ⟨o2, h⟩ := h
  refine sv_callV hM dX12_opened_2 sm_iv_439 (by decide) (sm_a0 _) rfl rfl (Nat.le_of_ble_eq_true rfl) sm_h39 (Nat.le_of_ble_eq_true rfl) (Nat.le_of_ble_eq_true rfl) (F' := 2) (sv_Fn (n := 2) o2) rfl (t_beginsExpression  S hok o1) (fun v S1 hq => ?_)
  obtain ⟨r7, rfl, hr7, ok4, md5, hp6⟩ := hq
  obtain rfl : S = S1 := (funext fun j => md5 j (by intro q; cases q)).symm
  show sv_T sm_XS sm_cs sm_L sm_sh (30 * (20 - (S 1023 0)) + 14).toNat (q_opened p1 S) 46 5 [(0, .ref 0), (1, sv_I p1)] [sv_I r7, .ref 0] S
  have h := h r7 hr7 hp6
  obtain ⟨o8, h⟩ := h
  obtain ⟨o9, h⟩ := h
  obtain ⟨o10, h⟩ := h
  refine sv_callV hM dX12_opened_5 sm_iv_450 (by decide) (sm_a0 _) rfl rfl (Nat.le_of_ble_eq_true rfl) sm_h28 (Nat.le_of_ble_eq_true rfl) (Nat.le_of_ble_eq_true rfl) (F' := 1) (sv_Fn (n := 1) o10) rfl (t_open r7 S ok4 o8 o9) (fun v S1 hq => ?_)
  obtain ⟨rfl, ok12, md13, hp14⟩ := hq
  obtain ⟨g11, rfl⟩ : ∃ g, S1 = sv_sts S [1021, 1022, 1023] g := ⟨_, md13.eq⟩
  show sv_T sm_XS sm_cs sm_L sm_sh (30 * (20 - (S 1023 0)) + 14).toNat (q_opened p1 S) 46 8 [(0, .ref 0), (1, sv_I p1)] [] (sv_sts S [1021, 1022, 1023] g11)
  have md15 : sv_mod [1020, 1021, 1022, 1023, 5, 1011, 3, 4, 1007, 1009, 11, 12, 13, 14, 1024, 15, 16, 1031, 1032, 17, 18, 19, 20, 21, 22, 23, 24, 25, 1042, 1043, 1044, 1045, 1100001, 1100002, 1100005, 1100003, 1100004] S (sv_sts S [1021, 1022, 1023] g11) := sv_mod.sts sv_mod.rf (by decide)
  have h := h g11 hp14
  refine sv_aload_n hM dX12_opened_8 rfl rfl ?_
  refine sv_iload_n hM dX12_opened_9 rfl rfl ?_
  obtain ⟨o16, h⟩ := h
  obtain ⟨o17, h⟩ := h
  obtain ⟨o18, h⟩ := h
  obtain ⟨o19, h⟩ := h
  refine sv_callV hM dX12_opened_10 sm_iv_442 (by decide) (sm_a0 _) rfl rfl (Nat.le_of_ble_eq_true rfl) sm_h47 (Nat.le_of_ble_eq_true rfl) (Nat.le_of_ble_eq_true rfl) (F' := (((if 0 < (g11 1021 0) then 12 else 30 * (20 - (g11 1023 0)) + 25))).toNat) (sv_Fe o19) rfl ((IH ((if 0 < (g11 1021 0) then 12 else 30 * (20 - (g11 1023 0)) + 25)) o18.1 o18.2).2.2.1 p1 (sv_sts S [1021, 1022, 1023] g11) ok12 o16 o17 rfl) (fun v S1 hq => ?_)
  obtain ⟨r24, rfl, hr24, ok21, md22, hp23⟩ := hq
  obtain ⟨g20, rfl⟩ : ∃ g, S1 = sv_sts (sv_sts S [1021, 1022, 1023] g11) [1020, 1021, 1022, 1023, 5, 1011, 3, 4, 1007, 1009, 11, 12, 13, 14, 1024, 15, 16, 1031, 1032, 17, 18, 19, 20, 21, 22, 23, 24, 25, 1042, 1043, 1044, 1045, 1100001, 1100002, 1100005, 1100003, 1100004] g := ⟨_, md22.eq⟩
  show sv_T sm_XS sm_cs sm_L sm_sh (30 * (20 - (S 1023 0)) + 14).toNat (q_opened p1 S) 46 13 [(0, .ref 0), (1, sv_I p1)] [sv_I r24] (sv_sts (sv_sts S [1021, 1022, 1023] g11) [1020, 1021, 1022, 1023, 5, 1011, 3, 4, 1007, 1009, 11, 12, 13, 14, 1024, 15, 16, 1031, 1032, 17, 18, 19, 20, 21, 22, 23, 24, 25, 1042, 1043, 1044, 1045, 1100001, 1100002, 1100005, 1100003, 1100004] g20)
  have md25 : sv_mod [1020, 1021, 1022, 1023, 5, 1011, 3, 4, 1007, 1009, 11, 12, 13, 14, 1024, 15, 16, 1031, 1032, 17, 18, 19, 20, 21, 22, 23, 24, 25, 1042, 1043, 1044, 1045, 1100001, 1100002, 1100005, 1100003, 1100004] S (sv_sts (sv_sts S [1021, 1022, 1023] g11) [1020, 1021, 1022, 1023, 5, 1011, 3, 4, 1007, 1009, 11, 12, 13, 14, 1024, 15, 16, 1031, 1032, 17, 18, 19, 20, 21, 22, 23, 24, 25, 1042, 1043, 1044, 1045, 1100001, 1100002, 1100005, 1100003, 1100004] g20) := sv_mod.sts md15 (by decide)
  have h := h r24 hr24 g20 hp23
  refine sv_istore_n hM dX12_opened_13 (by decide) rfl ?_
  show sv_T sm_XS sm_cs sm_L sm_sh (30 * (20 - (S 1023 0)) + 14).toNat (q_opened p1 S) 46 14 [(0, .ref 0), (1, sv_I p1), (2, sv_I r24)] [] (sv_sts (sv_sts S [1021, 1022, 1023] g11) [1020, 1021, 1022, 1023, 5, 1011, 3, 4, 1007, 1009, 11, 12, 13, 14, 1024, 15, 16, 1031, 1032, 17, 18, 19, 20, 21, 22, 23, 24, 25, 1042, 1043, 1044, 1045, 1100001, 1100002, 1100005, 1100003, 1100004] g20)
  refine sv_aload_n hM dX12_opened_14 rfl rfl ?_
  obtain ⟨o26, h⟩ := h
  refine sv_callV hM dX12_opened_15 sm_iv_454 (by decide) (sm_a0 _) rfl rfl (Nat.le_of_ble_eq_true rfl) sm_h29 (Nat.le_of_ble_eq_true rfl) (Nat.le_of_ble_eq_true rfl) (F' := 0) (sv_Fn (n := 0) o26) rfl (t_close  (sv_sts (sv_sts S [1021, 1022, 1023] g11) [1020, 1021, 1022, 1023, 5, 1011, 3, 4, 1007, 1009, 11, 12, 13, 14, 1024, 15, 16, 1031, 1032, 17, 18, 19, 20, 21, 22, 23, 24, 25, 1042, 1043, 1044, 1045, 1100001, 1100002, 1100005, 1100003, 1100004] g20) ok21) (fun v S1 hq => ?_)
  obtain ⟨rfl, ok28, md29, hp30⟩ := hq
  obtain ⟨g27, rfl⟩ : ∃ g, S1 = sv_sts (sv_sts (sv_sts S [1021, 1022, 1023] g11) [1020, 1021, 1022, 1023, 5, 1011, 3, 4, 1007, 1009, 11, 12, 13, 14, 1024, 15, 16, 1031, 1032, 17, 18, 19, 20, 21, 22, 23, 24, 25, 1042, 1043, 1044, 1045, 1100001, 1100002, 1100005, 1100003, 1100004] g20) [1023] g := ⟨_, md29.eq⟩
  show sv_T sm_XS sm_cs sm_L sm_sh (30 * (20 - (S 1023 0)) + 14).toNat (q_opened p1 S) 46 18 [(0, .ref 0), (1, sv_I p1), (2, sv_I r24)] [] (sv_sts (sv_sts (sv_sts S [1021, 1022, 1023] g11) [1020, 1021, 1022, 1023, 5, 1011, 3, 4, 1007, 1009, 11, 12, 13, 14, 1024, 15, 16, 1031, 1032, 17, 18, 19, 20, 21, 22, 23, 24, 25, 1042, 1043, 1044, 1045, 1100001, 1100002, 1100005, 1100003, 1100004] g20) [1023] g27)
  have md31 : sv_mod [1020, 1021, 1022, 1023, 5, 1011, 3, 4, 1007, 1009, 11, 12, 13, 14, 1024, 15, 16, 1031, 1032, 17, 18, 19, 20, 21, 22, 23, 24, 25, 1042, 1043, 1044, 1045, 1100001, 1100002, 1100005, 1100003, 1100004] S (sv_sts (sv_sts (sv_sts S [1021, 1022, 1023] g11) [1020, 1021, 1022, 1023, 5, 1011, 3, 4, 1007, 1009, 11, 12, 13, 14, 1024, 15, 16, 1031, 1032, 17, 18, 19, 20, 21, 22, 23, 24, 25, 1042, 1043, 1044, 1045, 1100001, 1100002, 1100005, 1100003, 1100004] g20) [1023] g27) := sv_mod.sts md25 (by decide)
  have h := h g27 hp30
  refine sv_iload_n hM dX12_opened_18 rfl rfl ?_
  exact sv_iret hM dX12_opened_19 rfl rfl ⟨r24, rfl, hr24, ok28, md31, h⟩
theorem la_assigned_0 {x0 : Int} (h0 : 0 ≤ x0) (h1 : x0 ≤ 1) : 0 ≤ x0 ∧ x0 ≤ 1 := by omega
theorem la_assigned_1 {x0 x1 x2 x3 x4 x5 x6 x7 x8 : Int} (h0 : 0 ≤ x0) (h1 : x0 < x1) (h2 : x1 ≤ 1 + x2) (h3 : 0 ≤ x3) (h4 : x3 ≤ 100) (h5 : 0 ≤ x4) (h6 : x4 ≤ 30) (h7 : 0 ≤ x5) (h8 : x5 ≤ 30) (h9 : 0 ≤ x6) (h10 : x7 = 0 → 0 ≤ x8 ∧ x8 ≤ 20 ∧ x3 ≤ 3 * x8 + 5 ∧ x6 ≤ 2 * x2 ∧ x4 ≤ x8 ∧ x5 ≤ x8) : 0 ≤ x0 ∧ x0 < x1 ∧ x1 ≤ 1 + x2 ∧ 0 ≤ x3 ∧ x3 ≤ 100 ∧ 0 ≤ x4 ∧ x4 ≤ 30 ∧ 0 ≤ x5 ∧ x5 ≤ 30 ∧ 0 ≤ x6 ∧ (x7 = 0 → 0 ≤ x8 ∧ x8 ≤ 20 ∧ x3 ≤ 3 * x8 + 5 ∧ x6 ≤ 2 * x2 ∧ x4 ≤ x8 ∧ x5 ≤ x8) := by omega
theorem la_assigned_2 {x0 : Int} (h0 : x0 = 11) : 0 ≤ x0 := by omega
theorem la_assigned_3 {x0 x1 x2 x3 x4 x5 x6 x7 : Int} (h0 : 0 ≤ x0) (h1 : x0 = 0 → 0 ≤ x1 ∧ x1 ≤ 20 ∧ x2 ≤ 3 * x1 + 5 ∧ x3 ≤ 2 * x4 ∧ x5 ≤ x1 ∧ x6 ≤ x1) (h2 : ¬ 0 < x0) (h3 : x7 = 30 * (20 - x1) + 24) : 0 ≤ x7 := by omega
theorem la_assigned_4 {x0 x1 x2 : Int} (h0 : x0 = x1) (h1 : x0 = 12) (h2 : x2 = 11) : x2 < x1 := by omega
theorem la_assigned_5 {x0 x1 x2 x3 : Int} (h0 : x0 = x1) (h1 : x0 = 30 * (20 - x2) + 25) (h2 : x3 = 30 * (20 - x2) + 24) : x3 < x1 := by omega
theorem la_assigned_6 {x0 x1 : Int} (h0 : x0 = 12) (h1 : x1 = 11) : x1 + 1 ≤ x0 := by omega
theorem la_assigned_7 {x0 x1 x2 : Int} (h0 : x0 = 30 * (20 - x1) + 25) (h1 : x2 = 30 * (20 - x1) + 24) : x2 + 1 ≤ x0 := by omega
theorem la_assigned_8 {x0 x1 : Int} (h0 : 0 < x0 → 0 < x1) (h1 : x1 ≤ 0) : ¬ 0 < x0 := by omega
theorem la_assigned_9 {x0 : Int} (h0 : 0 ≤ x0) (h1 : x0 ≤ 0) : x0 = 0 := by omega
theorem la_assigned_10 {x0 x1 x2 : Int} (h0 : 0 ≤ x0) (h1 : x1 ≤ 4001) (h2 : x2 < x1) (h3 : x0 < x2) : 0 ≤ x2 ∧ x2 ≤ 4000 := by omega
theorem la_assigned_11 {x0 x1 x2 x3 x4 x5 x6 x7 x8 : Int} (h0 : 0 ≤ x0) (h1 : x0 = 0 → 0 ≤ x1 ∧ x1 ≤ 20 ∧ x2 ≤ 3 * x1 + 5 ∧ x3 ≤ 2 * x4 ∧ x5 ≤ x1 ∧ x6 ≤ x1) (h2 : 0 < x0 → 0 < x7) (h3 : x7 ≤ 0) (h4 : x8 = 30 * (20 - x1) + 25) : 0 + 1 ≤ x8 := by omega
theorem la_assigned_12 {x0 : Int} (h0 : x0 < 12000) (h1 : 0 ≤ x0) : (-1) ≤ x0 ∧ x0 < 12000 := by omega
theorem la_assigned_13 {x0 x1 x2 : Int} (h0 : 0 ≤ x0) (h1 : x1 ≤ 4001) (h2 : x2 < x1) (h3 : x0 < x2) : sv_R (x2 + 1) := by omega
theorem la_assigned_14 {x0 x1 : Int} (h0 : 0 ≤ x0) (h1 : x0 < x1) : 0 ≤ x1 + 1 := by omega
theorem la_assigned_15 {x0 x1 : Int} (h0 : 0 ≤ x0) (h1 : x0 < x1) : 0 ≤ x1 := by omega
theorem la_assigned_16 {x0 x1 x2 x3 : Int} (h0 : (-1) ≤ x0) (h1 : ¬ x0 = (-1) → x1 = 5) (h2 : ¬ x0 = (-1)) (h3 : 1 ≤ x1 → x1 ≤ 5 → x2 + 1 < x3) : x2 + 1 < x3 := by omega
theorem la_assigned_17 {x0 x1 : Int} (h0 : 0 ≤ x0) (h1 : x0 ≤ x1) : 0 ≤ x1 := by omega
theorem la_assigned_18 {x0 x1 : Int} (h0 : 0 ≤ x0) (h1 : x1 = x0) : 0 ≤ x1 := by omega
theorem la_assigned_19 {x0 x1 x2 x3 : Int} (h0 : x0 < x1) (h1 : x2 = x0) (h2 : x1 ≤ x3) : x2 < x3 := by omega
theorem la_assigned_20 {x0 x1 : Int} (h0 : x0 ≤ 1 + x1) : x0 ≤ 1 + (x1 + 1) := by omega
theorem la_assigned_21 {x0 x1 : Int} (h0 : x0 ≤ 100) (h1 : x1 = x0) : x1 ≤ 100 := by omega
theorem la_assigned_22 {x0 x1 : Int} (h0 : x0 ≤ 30) (h1 : x1 = x0) : x1 ≤ 30 := by omega
theorem la_assigned_23 {x0 x1 x2 x3 x4 x5 x6 x7 x8 x9 x10 x11 x12 x13 : Int} (h0 : 0 ≤ x0) (h1 : x0 = 0 → 0 ≤ x1 ∧ x1 ≤ 20 ∧ x2 ≤ 3 * x1 + 5 ∧ x3 ≤ 2 * x4 ∧ x5 ≤ x1 ∧ x6 ≤ x1) (h2 : 0 < x0 → 0 < x7) (h3 : x8 = x2) (h4 : x9 = x5) (h5 : x10 = x6) (h6 : x7 = 0 → x11 = x1 ∧ x12 + 1 ≤ x3 + 2 * (x13 - x4)) : x7 = 0 → 0 ≤ x11 ∧ x11 ≤ 20 ∧ x8 ≤ 3 * x11 + 5 ∧ x12 ≤ 2 * (x13 + 1) ∧ x9 ≤ x11 ∧ x10 ≤ x11 := by omega
theorem la_assigned_24 {x0 x1 x2 x3 x4 x5 x6 x7 x8 x9 x10 x11 x12 : Int} (h0 : 0 ≤ x0) (h1 : x0 = 0 → 0 ≤ x1 ∧ x1 ≤ 20 ∧ x2 ≤ 3 * x1 + 5 ∧ x3 ≤ 2 * x4 ∧ x5 ≤ x1 ∧ x6 ≤ x1) (h2 : x7 = x8) (h3 : 0 ≤ x9) (h4 : 0 < x0 → 0 < x9) (h5 : x9 = 0 → x10 = x1 ∧ x11 + 1 ≤ x3 + 2 * (x12 - x4)) (h6 : x9 ≤ 0) (h7 : x7 = 30 * (20 - x1) + 25) : 0 ≤ 30 * (20 - x10) + 14 ∧ 30 * (20 - x10) + 14 < x8 := by omega
theorem la_assigned_25 {x0 x1 x2 x3 x4 x5 x6 x7 x8 x9 x10 x11 : Int} (h0 : 0 ≤ x0) (h1 : x0 = 0 → 0 ≤ x1 ∧ x1 ≤ 20 ∧ x2 ≤ 3 * x1 + 5 ∧ x3 ≤ 2 * x4 ∧ x5 ≤ x1 ∧ x6 ≤ x1) (h2 : 0 ≤ x7) (h3 : 0 < x0 → 0 < x7) (h4 : x7 = 0 → x8 = x1 ∧ x9 + 1 ≤ x3 + 2 * (x10 - x4)) (h5 : x7 ≤ 0) (h6 : x11 = 30 * (20 - x1) + 25) : 0 ≤ 30 * (20 - x8) + 14 ∧ 30 * (20 - x8) + 14 + 1 ≤ x11 := by omega
theorem la_assigned_26 {x0 x1 x2 x3 x4 x5 x6 x7 x8 x9 x10 x11 x12 x13 x14 x15 x16 : Int} (h0 : x0 ≤ 4001) (h1 : 0 ≤ x1) (h2 : x1 = 0 → 0 ≤ x2 ∧ x2 ≤ 20 ∧ x3 ≤ 3 * x2 + 5 ∧ x4 ≤ 2 * x5 ∧ x6 ≤ x2 ∧ x7 ≤ x2) (h3 : 0 ≤ x8) (h4 : 0 < x1 → 0 < x8) (h5 : x8 = 0 → x9 = x2 ∧ x10 + 1 ≤ x4 + 2 * (x11 - x5)) (h6 : x8 ≤ 0) (h7 : 0 ≤ x12) (h8 : x12 < x10) (h9 : x13 < x0) (h10 : 0 ≤ x14) (h11 : x10 ≤ x15) (h12 : x14 = 0 → x16 = x9 ∧ x15 + 1 ≤ x10 + 2 * (x13 - (x11 + 1))) (h13 : 0 < x14 → x15 ≤ x10 + 2 * (x13 - (x11 + 1)) + 2 * (30 * (20 - x9) + 14)) : 0 ≤ x15 ∧ x15 < 12000 := by omega
theorem la_assigned_27 {x0 : Int} (h0 : x0 = 1) : sv_R x0 := by omega
theorem la_assigned_28 {x0 : Int} (h0 : x0 = 0) : sv_R x0 := by omega
theorem la_assigned_29 {x0 x1 x2 x3 x4 x5 x6 x7 : Int} (h0 : 0 ≤ x0) (h1 : x0 = 0 → 0 ≤ x1 ∧ x1 ≤ 20 ∧ x2 ≤ 3 * x1 + 5 ∧ x3 ≤ 2 * x4 ∧ x5 ≤ x1 ∧ x6 ≤ x1) (h2 : 0 < x0 → 0 < x7) (h3 : x7 ≤ 0) : sv_R (17 * (20 - x1) + 17) := by omega
theorem la_assigned_30 {x0 x1 x2 x3 x4 x5 x6 x7 x8 : Int} (h0 : 0 ≤ x0) (h1 : x0 = 0 → 0 ≤ x1 ∧ x1 ≤ 20 ∧ x2 ≤ 3 * x1 + 5 ∧ x3 ≤ 2 * x4 ∧ x5 ≤ x1 ∧ x6 ≤ x1) (h2 : 0 < x0 → 0 < x7) (h3 : x7 ≤ 0) (h4 : x8 = 30 * (20 - x1) + 24) : sv_R (20 - x1) := by omega
theorem la_assigned_31 {x0 x1 x2 x3 : Int} (h0 : 0 ≤ x0) (h1 : x0 < x1) (h2 : x1 ≤ x2) (h3 : x3 = x2) : 0 ≤ x3 := by omega
theorem la_assigned_32 {x0 x1 x2 : Int} (h0 : x0 = x1) (h1 : x2 = x1 + 1) : x0 < x2 := by omega
theorem la_assigned_33 {x0 x1 : Int} (h0 : (-1) ≤ x0) (h1 : x1 = x0) : (-1) ≤ x1 := by omega
theorem la_assigned_34 {x0 x1 : Int} (h0 : x0 ≤ 10 ∨ x0 = 99) (h1 : ¬ x0 = 99) (h2 : x1 = x0) : x1 ≤ 10 := by omega
theorem la_assigned_35 {x0 x1 x2 x3 x4 : Int} (h0 : x0 < x1) (h1 : x1 ≤ x2) (h2 : x3 = x2 + 1) (h3 : x4 = x0) : x4 < x3 := by omega
theorem la_assigned_36 {x0 x1 x2 x3 : Int} (h0 : x0 < x1) (h1 : x1 ≤ x2) (h2 : x3 = x2 + 1) : x0 < x3 := by omega
theorem la_assigned_37 {x0 x1 x2 : Int} (h0 : x0 < x1) (h1 : x2 = x0) : x2 < x1 := by omega
theorem la_assigned_38 {x0 : Int} (h0 : x0 = 1) : ¬ x0 = 0 := by omega
theorem la_assigned_39 {x0 x1 x2 x3 : Int} (h0 : x0 < x1) (h1 : x1 ≤ x2) (h2 : x3 = x0) : x3 < x2 := by omega
theorem la_assigned_40 {x0 x1 x2 : Int} (h0 : x0 < x1) (h1 : x1 ≤ x2) : x0 < x2 := by omega
theorem la_assigned_41 {x0 x1 : Int} (h0 : x0 = 1) (h1 : x1 = x0) : ¬ x1 = 0 := by omega
theorem la_assigned_42 {x0 x1 : Int} (h0 : x0 = 1) (h1 : x1 = x0) : x1 = 1 := by omega
theorem la_assigned_43 {x0 x1 x2 x3 x4 x5 x6 : Int} (h0 : x0 = 2 ∨ x0 = 7 → x1 ≤ 17 * (20 - x2) + 2) (h1 : x3 = 0 ∨ x3 = 1) (h2 : x3 = 1 → 0 ≤ x4 ∧ x5 = 0 ∧ (x0 = 2 ∨ x0 = 7)) (h3 : ¬ x3 = 0) (h4 : x6 = x1) : x6 ≤ 17 * (20 - x2) + 14 := by omega
theorem la_assigned_44 {x0 x1 x2 : Int} (h0 : x0 ≤ 20 - x1) (h1 : x2 = x0) : x2 ≤ 20 - x1 := by omega
theorem la_assigned_45 {x0 x1 x2 x3 x4 : Int} (h0 : x0 < x1) (h1 : x1 ≤ x2) (h2 : x3 = x2) (h3 : x4 = x0) : x4 < x3 := by omega
theorem la_assigned_46 {x0 x1 : Int} (h0 : x0 = x1) : x1 = x0 := by omega
theorem la_assigned_47 {x0 x1 x2 x3 x4 x5 x6 x7 x8 x9 x10 x11 x12 : Int} (h0 : 0 < x0 → x1 ≤ x2 + 2 * (x3 - x4) + 2 * x5) (h1 : x6 = 0 ∨ x6 = 1) (h2 : x6 = 1 → 0 ≤ x7 ∧ x8 = 0 ∧ (x9 = 2 ∨ x9 = 7)) (h3 : ¬ x6 = 0) (h4 : x10 = x9) (h5 : x11 = x10) (h6 : x11 = x12) : x12 = 2 ∨ x12 = 7 := by omega
theorem la_assigned_48 {x0 x1 x2 x3 x4 x5 x6 : Int} (h0 : 0 ≤ x0) (h1 : x0 = 0 → x1 = x2 ∧ x3 + 1 ≤ x4 + 2 * (x5 - x6)) (h2 : x0 ≤ 0) : 17 * (20 - x1) ≤ 17 * (20 - x2) + 14 := by omega
theorem la_assigned_49 {x0 x1 x2 x3 x4 x5 x6 : Int} (h0 : 0 ≤ x0) (h1 : x0 = 0 → x1 = x2 ∧ x3 + 1 ≤ x4 + 2 * (x5 - x6)) (h2 : x0 ≤ 0) : 19 - x1 ≤ 19 - x2 := by omega
theorem la_assigned_50 {x0 x1 : Int} (h0 : x0 = x1 + 1) : x1 ≤ x0 := by omega
theorem la_assigned_51 {x0 x1 x2 : Int} (h0 : x0 < x1) (h1 : x1 + 1 ≤ x2) : x0 ≤ x2 := by omega
theorem la_assigned_52 {x0 x1 x2 : Int} (h0 : 0 < x0 → 0 < x1) (h1 : x1 ≤ 0) : 0 < x0 → 0 < x2 := by omega
theorem la_assigned_53 {x0 x1 x2 : Int} (h0 : x0 ≤ x1) (h1 : x1 ≤ x2) : x0 ≤ x2 := by omega
theorem la_assigned_54 {x0 x1 x2 : Int} (h0 : x0 = 1 → x1 = 1) (h1 : x1 = 1 → x2 = 1) : x0 = 1 → x2 = 1 := by omega
theorem la_assigned_55 {x0 x1 x2 x3 : Int} (h0 : x0 ≤ x1) (h1 : x1 ≤ x2) (h2 : x3 = x2 + 1) : x0 ≤ x3 := by omega
theorem la_assigned_56 {x0 x1 : Int} (h0 : x0 = x1) : x1 ≤ x0 := by omega
theorem la_assigned_57 {x0 x1 x2 : Int} (h0 : x0 = x1) (h1 : x2 = x0) : x2 = x1 := by omega
theorem la_assigned_58 {x0 x1 x2 x3 x4 x5 x6 x7 x8 x9 x10 x11 : Int} (h0 : 0 ≤ x0) (h1 : x0 = 0 → x1 = x2 ∧ x3 + 1 ≤ x4 + 2 * (x5 - x6)) (h2 : x0 ≤ 0) (h3 : x7 = 0 → x8 = x1 ∧ x9 + 1 ≤ x3 + 2 * (x10 - (x5 + 1))) (h4 : x11 = x9 + 1) : x7 = 0 → x8 = x2 ∧ x11 + 1 ≤ x4 + 2 * (x10 - x6) := by omega
theorem la_assigned_59 {x0 x1 x2 x3 x4 x5 x6 x7 x8 x9 x10 x11 x12 x13 x14 x15 x16 : Int} (h0 : 0 ≤ x0) (h1 : x0 = 0 → 0 ≤ x1 ∧ x1 ≤ 20 ∧ x2 ≤ 3 * x1 + 5 ∧ x3 ≤ 2 * x4 ∧ x5 ≤ x1 ∧ x6 ≤ x1) (h2 : 0 ≤ x7) (h3 : 0 < x0 → 0 < x7) (h4 : x7 = 0 → x8 = x1 ∧ x9 + 1 ≤ x3 + 2 * (x10 - x4)) (h5 : x7 ≤ 0) (h6 : x11 = 30 * (20 - x1) + 25) (h7 : x12 = 0 → x13 = x8 ∧ x14 + 1 ≤ x9 + 2 * (x15 - (x10 + 1))) (h8 : 0 < x12 → x14 ≤ x9 + 2 * (x15 - (x10 + 1)) + 2 * (30 * (20 - x8) + 14)) (h9 : x16 = x14 + 1) : 0 < x12 → x16 ≤ x3 + 2 * (x15 - x4) + 2 * x11 := by omega
theorem la_assigned_60 {x0 x1 x2 x3 : Int} (h0 : 0 ≤ x0) (h1 : x0 < x1) (h2 : x1 ≤ x2) (h3 : x3 = x2) : (-1) ≤ x3 := by omega
theorem la_assigned_61 {x0 x1 x2 x3 x4 x5 x6 x7 x8 x9 x10 x11 x12 x13 x14 x15 x16 : Int} (h0 : x0 ≤ 4001) (h1 : 0 ≤ x1) (h2 : x1 = 0 → 0 ≤ x2 ∧ x2 ≤ 20 ∧ x3 ≤ 3 * x2 + 5 ∧ x4 ≤ 2 * x5 ∧ x6 ≤ x2 ∧ x7 ≤ x2) (h3 : 0 ≤ x8) (h4 : 0 < x1 → 0 < x8) (h5 : x8 = 0 → x9 = x2 ∧ x10 + 1 ≤ x4 + 2 * (x11 - x5)) (h6 : x8 ≤ 0) (h7 : x12 < x0) (h8 : 0 ≤ x13) (h9 : x13 = 0 → x14 = x9 ∧ x15 + 1 ≤ x10 + 2 * (x12 - (x11 + 1))) (h10 : 0 < x13 → x15 ≤ x10 + 2 * (x12 - (x11 + 1)) + 2 * (30 * (20 - x9) + 14)) (h11 : x16 = x15) : x16 < 12000 := by omega
theorem la_assigned_62 {x0 x1 x2 : Int} (h0 : x0 < x1) (h1 : x1 + 1 < x2) : x0 < x2 := by omega
theorem la_assigned_63 {x0 x1 x2 : Int} (h0 : x0 = x1) (h1 : 0 ≤ x2) (h2 : x2 < x1) : 0 ≤ x0 := by omega
theorem la_assigned_64 {x0 : Int} : 17 * (20 - x0) + 17 ≤ 17 * (20 - x0) + 17 := by omega
theorem la_assigned_65 {x0 : Int} : 20 - x0 ≤ 20 - x0 := by omega
theorem la_assigned_66 {x0 : Int} : x0 = x0 := by omega
theorem la_assigned_67 {x0 : Int} (h0 : x0 = 15) (h1 : x0 = 2 ∨ x0 = 7) : False := by omega
theorem la_assigned_68 {x0 x1 x2 x3 x4 : Int} (h0 : 0 < x0 → 0 < x1) (h1 : x1 ≤ 0) (h2 : x2 < x3) (h3 : x3 + 1 ≤ x4) (h4 : 0 < x0) : x4 = x2 := by omega
theorem la_assigned_69 {x0 x1 x2 x3 x4 x5 : Int} (h0 : 0 < x0 → 0 < x1) (h1 : x2 ≤ x3) (h2 : x1 ≤ 0) (h3 : x3 ≤ x4) (h4 : x5 = x4 + 1) (h5 : 0 < x0) : x5 = x2 := by omega
theorem la_assigned_70 {x0 x1 x2 x3 : Int} (h0 : ¬ x0 = (-1) → x1 = 5) (h1 : ¬ ¬ x0 = 99) (h2 : 1 ≤ x1 → x1 ≤ 5 → x2 + 1 < x3) : x2 + 1 < x3 := by omega
theorem la_assigned_71 {x0 : Int} (h0 : x0 = (-1)) : (-1) ≤ x0 := by omega
theorem la_assigned_72 {x0 : Int} (h0 : x0 = (-1)) : x0 ≤ 10 := by omega
theorem la_assigned_73 {x0 x1 x2 x3 : Int} (h0 : 0 ≤ x0) (h1 : x1 ≤ 4001) (h2 : x2 < x1) (h3 : 0 ≤ x3) (h4 : x0 < x2) : 0 ≤ x2 ∧ x2 ≤ 4000 ∧ 0 ≤ x3 ∧ 1 ≤ 3 := by omega
theorem la_assigned_74 {x0 : Int} (h0 : 0 < x0) : 0 ≤ x0 := by omega
theorem la_assigned_75 {x0 x1 : Int} (h0 : 0 < x0) : 0 < x1 → 0 < x0 := by omega
theorem la_assigned_76 {x0 x1 x2 x3 x4 x5 x6 : Int} (h0 : 0 < x0) : x0 = 0 → x1 = x2 ∧ x3 + 1 ≤ x4 + 2 * (x5 - x6) := by omega
theorem la_assigned_77 {x0 x1 x2 x3 x4 x5 x6 x7 x8 x9 x10 x11 x12 : Int} (h0 : 0 ≤ x0) (h1 : x0 = 0 → 0 ≤ x1 ∧ x1 ≤ 20 ∧ x2 ≤ 3 * x1 + 5 ∧ x3 ≤ 2 * x4 ∧ x5 ≤ x1 ∧ x6 ≤ x1) (h2 : 0 ≤ x7) (h3 : 0 < x0 → 0 < x7) (h4 : x7 = 0 → x8 = x1 ∧ x9 + 1 ≤ x3 + 2 * (x10 - x4)) (h5 : x7 ≤ 0) (h6 : x11 = 30 * (20 - x1) + 25) : 0 < x12 → x9 ≤ x3 + 2 * (x10 - x4) + 2 * x11 := by omega
theorem la_assigned_78 : (-1) ≤ (-1) := by omega
theorem la_assigned_79 : (-1) < 12000 := by omega
theorem la_assigned_80 {x0 x1 : Int} (h0 : 0 ≤ x0) (h1 : 0 < x1) (h2 : x1 = 0) : (-1) = x0 := by omega
theorem la_assigned_81 {x0 x1 x2 : Int} (h0 : 0 < x0) (h1 : x0 = 0) : x1 ≤ 17 * (20 - x2) + 2 := by omega
theorem la_assigned_82 {x0 x1 x2 x3 : Int} (h0 : 0 < x0 → 0 < x1) (h1 : x1 ≤ 0) (h2 : x2 < x3) (h3 : 0 < x0) : x3 = x2 := by omega
theorem la_assigned_83 {x0 x1 x2 x3 : Int} (h0 : 0 < x0 → 0 < x1) (h1 : x2 ≤ x3) (h2 : x1 ≤ 0) (h3 : 0 < x0) : x3 = x2 := by omega
theorem la_assigned_84 {x0 x1 x2 x3 x4 x5 : Int} (h0 : x0 ≤ 0) : 0 < x0 → x1 ≤ x2 + 2 * (x3 - x4) + 2 * x5 := by omega
theorem la_assigned_85 {x0 : Int} (h0 : ¬ x0 ≤ 0) : ¬ x0 = 0 := by omega
theorem la_assigned_86 {x0 x1 x2 x3 x4 x5 x6 : Int} (h0 : 0 < x0 → x1 ≤ x2 + 2 * (x3 - x4) + 2 * x5) (h1 : ¬ x0 ≤ 0) (h2 : x6 = 12) (h3 : x5 = 11) : x1 ≤ x2 + 2 * (x3 - x4) + 2 * x6 := by omega
theorem la_assigned_87 {x0 x1 x2 x3 x4 x5 x6 x7 : Int} (h0 : 0 < x0 → x1 ≤ x2 + 2 * (x3 - x4) + 2 * x5) (h1 : ¬ x0 ≤ 0) (h2 : x6 = 30 * (20 - x7) + 25) (h3 : x5 = 30 * (20 - x7) + 24) : x1 ≤ x2 + 2 * (x3 - x4) + 2 * x6 := by omega
theorem la_assigned_88 {x0 x1 : Int} (h0 : ¬ x0 ≤ 0) (h1 : x0 = 0) : 0 < x1 := by omega
theorem la_assigned_89 {x0 x1 x2 : Int} (h0 : ¬ x0 ≤ 0) (h1 : x0 = 0) : x1 < x2 := by omega
theorem la_assigned_90 {x0 x1 : Int} (h0 : ¬ x0 ≤ 0) (h1 : x0 = 0) : 1 ≤ x1 := by omega
theorem la_assigned_91 {x0 : Int} (h0 : 0 ≤ x0) : (-1) < x0 := by omega
theorem la_assigned_92 {x0 : Int} (h0 : ¬ x0 ≤ 0) (h1 : x0 = 0) : False := by omega
theorem la_assigned_93 {x0 x1 x2 : Int} (h0 : ¬ x0 ≤ 0) (h1 : x0 = 0) : x1 ≤ 17 * (20 - x2) + 2 := by omega
theorem la_assigned_94 {x0 x1 x2 x3 x4 : Int} (h0 : x0 ≤ x1) (h1 : 0 < x2 → x1 = x0 ∧ x3 = x4) (h2 : 0 < x2) : x1 = x0 := by omega
theorem la_assigned_95 {x0 x1 x2 x3 x4 : Int} (h0 : x0 ≤ x1) (h1 : 0 < x2 → x3 = x4 ∧ x1 = x0) (h2 : 0 < x2) : x1 = x0 := by omega
set_option maxHeartbeats 8000000 in
theorem f_assigned : ∀ (d : Int) (p1 : Int) (S : sv_S), sm_ok S → (0 ≤ p1 ∧ p1 ≤ 1) → (0 ≤ (S 1020 0) ∧ (S 1020 0) < (S 1012 0) ∧ sm_TK (S 6) (S 8) (S 9) (S 10) (S 1012 0) ∧ 0 ≤ (S 1021 0) ∧ 0 ≤ (S 1004 0) ∧ (S 1004 0) ≤ 4000 ∧ 0 ≤ (S 1007 0) ∧ (S 1007 0) ≤ 90 ∧ sm_LN (S 4) (S 1007 0) ∧ sm_WF (S 11) (S 12) (S 13) (S 1100001) (S 1100002) (S 1100005) (S 1100003) (S 1100004) (S 1024 0) (S 1007 0) (S 1009 0) (S 1032 0) ∧ sm_HD (S 23) (S 24) (S 1032 0) (S 1007 0) ∧ sm_HD (S 25) (fun _ : Int => (S 1042 0)) 1 (S 1007 0) ∧ 0 ≤ (S 1043 0) ∧ (S 1043 0) < (S 1032 0) ∧ (S 1032 0) ≤ 1 + (S 1020 0) ∧ 0 ≤ (S 1031 0) ∧ (S 1031 0) ≤ 100 ∧ 0 ≤ (S 1044 0) ∧ (S 1044 0) ≤ 30 ∧ 0 ≤ (S 1045 0) ∧ (S 1045 0) ≤ 30 ∧ 0 ≤ (S 1024 0) ∧ ((S 1021 0) = 0 → 0 ≤ (S 1023 0) ∧ (S 1023 0) ≤ 20 ∧ (S 1031 0) ≤ 3 * (S 1023 0) + 5 ∧ (S 1024 0) ≤ 2 * (S 1020 0) ∧ (S 1044 0) ≤ (S 1023 0) ∧ (S 1045 0) ≤ (S 1023 0))) → ((if 0 < (S 1021 0) then 12 else 30 * (20 - (S 1023 0)) + 25)) = d → (0 ≤ p1 ∧ p1 ≤ 1) ∧ (0 ≤ (S 1020 0) ∧ (S 1020 0) < (S 1012 0) ∧ sm_TK (S 6) (S 8) (S 9) (S 10) (S 1012 0) ∧ 0 ≤ (S 1021 0) ∧ 0 ≤ (S 1004 0) ∧ (S 1004 0) ≤ 4000 ∧ 0 ≤ (S 1007 0) ∧ (S 1007 0) ≤ 90 ∧ sm_LN (S 4) (S 1007 0) ∧ sm_WF (S 11) (S 12) (S 13) (S 1100001) (S 1100002) (S 1100005) (S 1100003) (S 1100004) (S 1024 0) (S 1007 0) (S 1009 0) (S 1032 0) ∧ sm_HD (S 23) (S 24) (S 1032 0) (S 1007 0) ∧ sm_HD (S 25) (fun _ : Int => (S 1042 0)) 1 (S 1007 0) ∧ 0 ≤ (S 1043 0) ∧ (S 1043 0) < (S 1032 0) ∧ (S 1032 0) ≤ 1 + (S 1020 0) ∧ 0 ≤ (S 1031 0) ∧ (S 1031 0) ≤ 100 ∧ 0 ≤ (S 1044 0) ∧ (S 1044 0) ≤ 30 ∧ 0 ≤ (S 1045 0) ∧ (S 1045 0) ≤ 30 ∧ 0 ≤ (S 1024 0) ∧ ((S 1021 0) = 0 → 0 ≤ (S 1023 0) ∧ (S 1023 0) ≤ 20 ∧ (S 1031 0) ≤ 3 * (S 1023 0) + 5 ∧ (S 1024 0) ≤ 2 * (S 1020 0) ∧ (S 1044 0) ≤ (S 1023 0) ∧ (S 1045 0) ≤ (S 1023 0))) ∧ (0 ≤ ((if 0 < (S 1021 0) then 11 else 30 * (20 - (S 1023 0)) + 24)) ∧ ((if 0 < (S 1021 0) then 11 else 30 * (20 - (S 1023 0)) + 24)) < d) ∧ (0 ≤ ((if 0 < (S 1021 0) then 11 else 30 * (20 - (S 1023 0)) + 24)) ∧ ((if 0 < (S 1021 0) then 11 else 30 * (20 - (S 1023 0)) + 24)) + 1 ≤ ((if 0 < (S 1021 0) then 12 else 30 * (20 - (S 1023 0)) + 25))) ∧ (∀ r9 : Int, sv_R r9 → ∀ g5 : sv_S, ((S 1020 0) ≤ (g5 1020 0) ∧ (g5 1020 0) < (S 1012 0) ∧ 0 ≤ (g5 1021 0) ∧ (0 < (S 1021 0) → 0 < (g5 1021 0)) ∧ (S 1007 0) ≤ (g5 1007 0) ∧ (g5 1007 0) ≤ 90 ∧ sm_LN (g5 4) (g5 1007 0) ∧ ((S 1009 0) = 1 → (g5 1009 0) = 1) ∧ sm_WF (g5 11) (g5 12) (g5 13) (g5 1100001) (g5 1100002) (g5 1100005) (g5 1100003) (g5 1100004) (g5 1024 0) (g5 1007 0) (g5 1009 0) (g5 1032 0) ∧ sm_PS (S 11) (S 1100001) (S 1100002) (S 1100005) (S 1100003) (S 1100004) (g5 11) (g5 1100001) (g5 1100002) (g5 1100005) (g5 1100003) (g5 1100004) (S 1024 0) ∧ sm_KL (S 15) (S 16) (g5 15) (g5 16) (S 1031 0) ∧ sm_HD (g5 23) (g5 24) (g5 1032 0) (g5 1007 0) ∧ sm_HD (g5 25) (fun _ : Int => (g5 1042 0)) 1 (g5 1007 0) ∧ (g5 1031 0) = (S 1031 0) ∧ (g5 1043 0) = (S 1043 0) ∧ (g5 1044 0) = (S 1044 0) ∧ (g5 1045 0) = (S 1045 0) ∧ (S 1032 0) ≤ (g5 1032 0) ∧ (g5 1032 0) ≤ 1 + (g5 1020 0) ∧ (S 1024 0) ≤ (g5 1024 0) ∧ ((g5 1021 0) = 0 → (g5 1023 0) = (S 1023 0) ∧ (g5 1024 0) + 1 ≤ (S 1024 0) + 2 * ((g5 1020 0) - (S 1020 0))) ∧ (0 < (g5 1021 0) → (g5 1024 0) ≤ (S 1024 0) + 2 * ((g5 1020 0) - (S 1020 0)) + 2 * ((if 0 < (S 1021 0) then 11 else 30 * (20 - (S 1023 0)) + 24))) ∧ -1 ≤ r9 ∧ r9 < 12000 ∧ ((g5 1021 0) = 0 → (S 1020 0) < (g5 1020 0) ∧ 1 ≤ (S 6 (S 1020 0)) ∧ sm_ex (g5 1100001) (g5 1100002) (g5 1100005) (g5 1024 0) 1 r9 (17 * (20 - (S 1023 0)) + 17) (20 - (S 1023 0)) ∧ ((g5 11 r9) = 2 ∨ (g5 11 r9) = 7 → (g5 1100002 r9) ≤ 17 * (20 - (S 1023 0)) + 2)) ∧ (0 < (S 1021 0) → (g5 1020 0) = (S 1020 0) ∧ (g5 1024 0) = (S 1024 0))) → (sv_R (g5 1021 0) → ((((g5 1021 0) ≤ (0 : Int)) → (0 ≤ (g5 1020 0) ∧ (g5 1020 0) ≤ 4000) ∧ (0 + 1 ≤ ((if 0 < (S 1021 0) then 12 else 30 * (20 - (S 1023 0)) + 25))) ∧ (∀ r18 : Int, sv_R r18 → (-1 ≤ r18 ∧ (r18 ≤ 10 ∨ r18 = 99) ∧ (¬ r18 = -1 → (S 6 (g5 1020 0)) = 5)) → (((¬ r18 = (-1 : Int)) → (-1 ≤ r9 ∧ r9 < 12000) ∧ (∀ r24 : Int, sv_R r24 → ((r24 = 0 ∨ r24 = 1) ∧ (r24 = 1 → 0 ≤ r9 ∧ (g5 14 r9) = 0 ∧ ((g5 11 r9) = 2 ∨ (g5 11 r9) = 7))) → (((¬ r24 = (0 : Int)) → (sv_R (g5 1020 0) → (sv_R ((g5 1020 0) + (1 : Int))) ∧ (((¬ r18 = (99 : Int)) → (0 ≤ ((g5 1020 0) + (1 : Int)) ∧ ((g5 1020 0) + (1 : Int)) < (S 1012 0) ∧ sm_TK (S 6) (S 8) (S 9) (S 10) (S 1012 0) ∧ 0 ≤ (g5 1021 0) ∧ 0 ≤ (S 1004 0) ∧ (S 1004 0) ≤ 4000 ∧ 0 ≤ (g5 1007 0) ∧ (g5 1007 0) ≤ 90 ∧ sm_LN (g5 4) (g5 1007 0) ∧ sm_WF (g5 11) (g5 12) (g5 13) (g5 1100001) (g5 1100002) (g5 1100005) (g5 1100003) (g5 1100004) (g5 1024 0) (g5 1007 0) (g5 1009 0) (g5 1032 0) ∧ sm_HD (g5 23) (g5 24) (g5 1032 0) (g5 1007 0) ∧ sm_HD (g5 25) (fun _ : Int => (g5 1042 0)) 1 (g5 1007 0) ∧ 0 ≤ (g5 1043 0) ∧ (g5 1043 0) < (g5 1032 0) ∧ (g5 1032 0) ≤ 1 + ((g5 1020 0) + (1 : Int)) ∧ 0 ≤ (g5 1031 0) ∧ (g5 1031 0) ≤ 100 ∧ 0 ≤ (g5 1044 0) ∧ (g5 1044 0) ≤ 30 ∧ 0 ≤ (g5 1045 0) ∧ (g5 1045 0) ≤ 30 ∧ 0 ≤ (g5 1024 0) ∧ ((g5 1021 0) = 0 → 0 ≤ (g5 1023 0) ∧ (g5 1023 0) ≤ 20 ∧ (g5 1031 0) ≤ 3 * (g5 1023 0) + 5 ∧ (g5 1024 0) ≤ 2 * ((g5 1020 0) + (1 : Int)) ∧ (g5 1044 0) ≤ (g5 1023 0) ∧ (g5 1045 0) ≤ (g5 1023 0)) ∧ (g5 1021 0) = 0) ∧ (0 ≤ (30 * (20 - (g5 1023 0)) + 14) ∧ (30 * (20 - (g5 1023 0)) + 14) < d) ∧ (0 ≤ (30 * (20 - (g5 1023 0)) + 14) ∧ (30 * (20 - (g5 1023 0)) + 14) + 1 ≤ ((if 0 < (S 1021 0) then 12 else 30 * (20 - (S 1023 0)) + 25))) ∧ (∀ r36 : Int, sv_R r36 → ∀ g32 : sv_S, (((g5 1020 0) + (1 : Int)) ≤ (g32 1020 0) ∧ (g32 1020 0) < (S 1012 0) ∧ 0 ≤ (g32 1021 0) ∧ (0 < (g5 1021 0) → 0 < (g32 1021 0)) ∧ (g5 1007 0) ≤ (g32 1007 0) ∧ (g32 1007 0) ≤ 90 ∧ sm_LN (g32 4) (g32 1007 0) ∧ ((g5 1009 0) = 1 → (g32 1009 0) = 1) ∧ sm_WF (g32 11) (g32 12) (g32 13) (g32 1100001) (g32 1100002) (g32 1100005) (g32 1100003) (g32 1100004) (g32 1024 0) (g32 1007 0) (g32 1009 0) (g32 1032 0) ∧ sm_PS (g5 11) (g5 1100001) (g5 1100002) (g5 1100005) (g5 1100003) (g5 1100004) (g32 11) (g32 1100001) (g32 1100002) (g32 1100005) (g32 1100003) (g32 1100004) (g5 1024 0) ∧ sm_KL (g5 15) (g5 16) (g32 15) (g32 16) (g5 1031 0) ∧ sm_HD (g32 23) (g32 24) (g32 1032 0) (g32 1007 0) ∧ sm_HD (g32 25) (fun _ : Int => (g32 1042 0)) 1 (g32 1007 0) ∧ (g32 1031 0) = (g5 1031 0) ∧ (g32 1043 0) = (g5 1043 0) ∧ (g32 1044 0) = (g5 1044 0) ∧ (g32 1045 0) = (g5 1045 0) ∧ (g5 1032 0) ≤ (g32 1032 0) ∧ (g32 1032 0) ≤ 1 + (g32 1020 0) ∧ (g5 1024 0) ≤ (g32 1024 0) ∧ ((g32 1021 0) = 0 → (g32 1023 0) = (g5 1023 0) ∧ (g32 1024 0) + 1 ≤ (g5 1024 0) + 2 * ((g32 1020 0) - ((g5 1020 0) + (1 : Int)))) ∧ (0 < (g32 1021 0) → (g32 1024 0) ≤ (g5 1024 0) + 2 * ((g32 1020 0) - ((g5 1020 0) + (1 : Int))) + 2 * (30 * (20 - (g5 1023 0)) + 14)) ∧ -1 ≤ r36 ∧ r36 < 12000 ∧ ((g32 1021 0) = 0 → sm_ex (g32 1100001) (g32 1100002) (g32 1100005) (g32 1024 0) 1 r36 (17 * (20 - (g5 1023 0))) (19 - (g5 1023 0)) ∧ ((g5 1020 0) + (1 : Int)) < (g32 1020 0))) → (0 ≤ (g32 1024 0) ∧ (g32 1024 0) < 12000) ∧ (∀ r43 : Int, sv_R r43 → ∀ g39 : sv_S, (r43 = (g32 1024 0) ∧ (g39 1024 0) = (g32 1024 0) + 1 ∧ (g39 11 r43) = (15 : Int) ∧ (g39 12 (5 * r43)) = r18 ∧ (g39 12 (5 * r43 + 1)) = r9 ∧ (g39 12 (5 * r43 + 2)) = r36 ∧ (g39 12 (5 * r43 + 3)) = -1 ∧ (g39 12 (5 * r43 + 4)) = -1 ∧ (g39 13 r43) = -1 ∧ (g39 14 r43) = 0 ∧ (∀ n : Int, n < (g32 1024 0) → (g39 14 n) = (g32 14 n)) ∧ (sm_WF (g32 11) (g32 12) (g32 13) (g32 1100001) (g32 1100002) (g32 1100005) (g32 1100003) (g32 1100004) (g32 1024 0) (g32 1007 0) (g32 1009 0) (g32 1032 0) → sm_WF (g39 11) (g39 12) (g39 13) (g32 1100001) (g32 1100002) (g32 1100005) (g32 1100003) (g32 1100004) (g39 1024 0) (g32 1007 0) (g32 1009 0) (g32 1032 0) ∧ (g32 1100001 r43) = 0) ∧ sm_PS (g32 11) (g32 1100001) (g32 1100002) (g32 1100005) (g32 1100003) (g32 1100004) (g39 11) (g32 1100001) (g32 1100002) (g32 1100005) (g32 1100003) (g32 1100004) (g32 1024 0)) → (sv_R ((if (g32 1021 0) = 0 then 1 else 0))) ∧ (sv_R ((17 * (20 - (S 1023 0)) + 17))) ∧ (sv_R ((20 - (S 1023 0)))) ∧ ((sm_WF (g39 11) (g39 12) (g39 13) (g32 1100001) (g32 1100002) (g32 1100005) (g32 1100003) (g32 1100004) (g39 1024 0) (g32 1007 0) (g32 1009 0) (g32 1032 0) → (g32 1100001 r43) = 0 → 0 ≤ r43 → r43 < (g39 1024 0) → (g39 13 r43) = -1 → ((g32 1021 0) = 0 → (g39 11 r43) = 15 ∧ -1 ≤ (g39 12 (5 * r43)) ∧ (g39 12 (5 * r43)) ≤ 10 ∧ sm_ex (g32 1100001) (g32 1100002) (g32 1100005) (g39 1024 0) 1 (g39 12 (5 * r43 + 1)) (17 * (20 - (S 1023 0)) + 14) (20 - (S 1023 0)) ∧ (g39 12 (5 * r43 + 1)) < r43 ∧ ((g39 11 (g39 12 (5 * r43 + 1))) = 2 ∨ (g39 11 (g39 12 (5 * r43 + 1))) = 7) ∧ sm_ex (g32 1100001) (g32 1100002) (g32 1100005) (g39 1024 0) 1 (g39 12 (5 * r43 + 2)) (17 * (20 - (S 1023 0)) + 14) (19 - (S 1023 0))) → sm_WF (g39 11) (g39 12) (g39 13) (fun i' : Int => if i' = r43 then ((if (g32 1021 0) = 0 then 1 else 0)) else (g32 1100001) i') (fun i' : Int => if i' = r43 then ((17 * (20 - (S 1023 0)) + 17)) else (g32 1100002) i') (fun i' : Int => if i' = r43 then ((20 - (S 1023 0))) else (g32 1100005) i') (fun i' : Int => if i' = r43 then (0 : Int) else (g32 1100003) i') (fun i' : Int => if i' = r43 then (0 : Int) else (g32 1100004) i') (g39 1024 0) (g32 1007 0) (g32 1009 0) (g32 1032 0) ∧ sm_PS (g39 11) (g32 1100001) (g32 1100002) (g32 1100005) (g32 1100003) (g32 1100004) (g39 11) (fun i' : Int => if i' = r43 then ((if (g32 1021 0) = 0 then 1 else 0)) else (g32 1100001) i') (fun i' : Int => if i' = r43 then ((17 * (20 - (S 1023 0)) + 17)) else (g32 1100002) i') (fun i' : Int => if i' = r43 then ((20 - (S 1023 0))) else (g32 1100005) i') (fun i' : Int => if i' = r43 then (0 : Int) else (g32 1100003) i') (fun i' : Int => if i' = r43 then (0 : Int) else (g32 1100004) i') (g39 1024 0)) → ((S 1020 0) ≤ (g32 1020 0) ∧ (g32 1020 0) < (S 1012 0) ∧ 0 ≤ (g32 1021 0) ∧ (0 < (S 1021 0) → 0 < (g32 1021 0)) ∧ (S 1007 0) ≤ (g32 1007 0) ∧ (g32 1007 0) ≤ 90 ∧ sm_LN (g32 4) (g32 1007 0) ∧ ((S 1009 0) = 1 → (g32 1009 0) = 1) ∧ sm_WF (g39 11) (g39 12) (g39 13) (fun i' : Int => if i' = r43 then ((if (g32 1021 0) = 0 then 1 else 0)) else (g32 1100001) i') (fun i' : Int => if i' = r43 then ((17 * (20 - (S 1023 0)) + 17)) else (g32 1100002) i') (fun i' : Int => if i' = r43 then ((20 - (S 1023 0))) else (g32 1100005) i') (fun i' : Int => if i' = r43 then (0 : Int) else (g32 1100003) i') (fun i' : Int => if i' = r43 then (0 : Int) else (g32 1100004) i') (g39 1024 0) (g32 1007 0) (g32 1009 0) (g32 1032 0) ∧ sm_PS (S 11) (S 1100001) (S 1100002) (S 1100005) (S 1100003) (S 1100004) (g39 11) (fun i' : Int => if i' = r43 then ((if (g32 1021 0) = 0 then 1 else 0)) else (g32 1100001) i') (fun i' : Int => if i' = r43 then ((17 * (20 - (S 1023 0)) + 17)) else (g32 1100002) i') (fun i' : Int => if i' = r43 then ((20 - (S 1023 0))) else (g32 1100005) i') (fun i' : Int => if i' = r43 then (0 : Int) else (g32 1100003) i') (fun i' : Int => if i' = r43 then (0 : Int) else (g32 1100004) i') (S 1024 0) ∧ sm_KL (S 15) (S 16) (g32 15) (g32 16) (S 1031 0) ∧ sm_HD (g32 23) (g32 24) (g32 1032 0) (g32 1007 0) ∧ sm_HD (g32 25) (fun _ : Int => (g32 1042 0)) 1 (g32 1007 0) ∧ (g32 1031 0) = (S 1031 0) ∧ (g32 1043 0) = (S 1043 0) ∧ (g32 1044 0) = (S 1044 0) ∧ (g32 1045 0) = (S 1045 0) ∧ (S 1032 0) ≤ (g32 1032 0) ∧ (g32 1032 0) ≤ 1 + (g32 1020 0) ∧ (S 1024 0) ≤ (g39 1024 0) ∧ ((g32 1021 0) = 0 → (g32 1023 0) = (S 1023 0) ∧ (g39 1024 0) + 1 ≤ (S 1024 0) + 2 * ((g32 1020 0) - (S 1020 0))) ∧ (0 < (g32 1021 0) → (g39 1024 0) ≤ (S 1024 0) + 2 * ((g32 1020 0) - (S 1020 0)) + 2 * ((if 0 < (S 1021 0) then 12 else 30 * (20 - (S 1023 0)) + 25))) ∧ -1 ≤ r43 ∧ r43 < 12000 ∧ ((g32 1021 0) = 0 → (S 1020 0) < (g32 1020 0) ∧ 1 ≤ (S 6 (S 1020 0)) ∧ sm_ex (fun i' : Int => if i' = r43 then ((if (g32 1021 0) = 0 then 1 else 0)) else (g32 1100001) i') (fun i' : Int => if i' = r43 then ((17 * (20 - (S 1023 0)) + 17)) else (g32 1100002) i') (fun i' : Int => if i' = r43 then ((20 - (S 1023 0))) else (g32 1100005) i') (g39 1024 0) 1 r43 (17 * (20 - (S 1023 0)) + 17) (20 - (S 1023 0)) ∧ ((g39 11 r43) = 2 ∨ (g39 11 r43) = 7 → (if r43 = r43 then ((17 * (20 - (S 1023 0)) + 17)) else (g32 1100002 r43)) ≤ 17 * (20 - (S 1023 0)) + 2)) ∧ (0 < (S 1021 0) → (g32 1020 0) = (S 1020 0) ∧ (g39 1024 0) = (S 1024 0))))))) ∧ ((¬ (¬ r18 = (99 : Int))) → (0 ≤ ((g5 1020 0) + (1 : Int)) ∧ ((g5 1020 0) + (1 : Int)) < (S 1012 0) ∧ sm_TK (S 6) (S 8) (S 9) (S 10) (S 1012 0) ∧ 0 ≤ (g5 1021 0) ∧ 0 ≤ (S 1004 0) ∧ (S 1004 0) ≤ 4000 ∧ 0 ≤ (g5 1007 0) ∧ (g5 1007 0) ≤ 90 ∧ sm_LN (g5 4) (g5 1007 0) ∧ sm_WF (g5 11) (g5 12) (g5 13) (g5 1100001) (g5 1100002) (g5 1100005) (g5 1100003) (g5 1100004) (g5 1024 0) (g5 1007 0) (g5 1009 0) (g5 1032 0) ∧ sm_HD (g5 23) (g5 24) (g5 1032 0) (g5 1007 0) ∧ sm_HD (g5 25) (fun _ : Int => (g5 1042 0)) 1 (g5 1007 0) ∧ 0 ≤ (g5 1043 0) ∧ (g5 1043 0) < (g5 1032 0) ∧ (g5 1032 0) ≤ 1 + ((g5 1020 0) + (1 : Int)) ∧ 0 ≤ (g5 1031 0) ∧ (g5 1031 0) ≤ 100 ∧ 0 ≤ (g5 1044 0) ∧ (g5 1044 0) ≤ 30 ∧ 0 ≤ (g5 1045 0) ∧ (g5 1045 0) ≤ 30 ∧ 0 ≤ (g5 1024 0) ∧ ((g5 1021 0) = 0 → 0 ≤ (g5 1023 0) ∧ (g5 1023 0) ≤ 20 ∧ (g5 1031 0) ≤ 3 * (g5 1023 0) + 5 ∧ (g5 1024 0) ≤ 2 * ((g5 1020 0) + (1 : Int)) ∧ (g5 1044 0) ≤ (g5 1023 0) ∧ (g5 1045 0) ≤ (g5 1023 0)) ∧ (g5 1021 0) = 0) ∧ (0 ≤ (30 * (20 - (g5 1023 0)) + 14) ∧ (30 * (20 - (g5 1023 0)) + 14) < d) ∧ (0 ≤ (30 * (20 - (g5 1023 0)) + 14) ∧ (30 * (20 - (g5 1023 0)) + 14) + 1 ≤ ((if 0 < (S 1021 0) then 12 else 30 * (20 - (S 1023 0)) + 25))) ∧ (∀ r66 : Int, sv_R r66 → ∀ g62 : sv_S, (((g5 1020 0) + (1 : Int)) ≤ (g62 1020 0) ∧ (g62 1020 0) < (S 1012 0) ∧ 0 ≤ (g62 1021 0) ∧ (0 < (g5 1021 0) → 0 < (g62 1021 0)) ∧ (g5 1007 0) ≤ (g62 1007 0) ∧ (g62 1007 0) ≤ 90 ∧ sm_LN (g62 4) (g62 1007 0) ∧ ((g5 1009 0) = 1 → (g62 1009 0) = 1) ∧ sm_WF (g62 11) (g62 12) (g62 13) (g62 1100001) (g62 1100002) (g62 1100005) (g62 1100003) (g62 1100004) (g62 1024 0) (g62 1007 0) (g62 1009 0) (g62 1032 0) ∧ sm_PS (g5 11) (g5 1100001) (g5 1100002) (g5 1100005) (g5 1100003) (g5 1100004) (g62 11) (g62 1100001) (g62 1100002) (g62 1100005) (g62 1100003) (g62 1100004) (g5 1024 0) ∧ sm_KL (g5 15) (g5 16) (g62 15) (g62 16) (g5 1031 0) ∧ sm_HD (g62 23) (g62 24) (g62 1032 0) (g62 1007 0) ∧ sm_HD (g62 25) (fun _ : Int => (g62 1042 0)) 1 (g62 1007 0) ∧ (g62 1031 0) = (g5 1031 0) ∧ (g62 1043 0) = (g5 1043 0) ∧ (g62 1044 0) = (g5 1044 0) ∧ (g62 1045 0) = (g5 1045 0) ∧ (g5 1032 0) ≤ (g62 1032 0) ∧ (g62 1032 0) ≤ 1 + (g62 1020 0) ∧ (g5 1024 0) ≤ (g62 1024 0) ∧ ((g62 1021 0) = 0 → (g62 1023 0) = (g5 1023 0) ∧ (g62 1024 0) + 1 ≤ (g5 1024 0) + 2 * ((g62 1020 0) - ((g5 1020 0) + (1 : Int)))) ∧ (0 < (g62 1021 0) → (g62 1024 0) ≤ (g5 1024 0) + 2 * ((g62 1020 0) - ((g5 1020 0) + (1 : Int))) + 2 * (30 * (20 - (g5 1023 0)) + 14)) ∧ -1 ≤ r66 ∧ r66 < 12000 ∧ ((g62 1021 0) = 0 → sm_ex (g62 1100001) (g62 1100002) (g62 1100005) (g62 1024 0) 1 r66 (17 * (20 - (g5 1023 0))) (19 - (g5 1023 0)) ∧ ((g5 1020 0) + (1 : Int)) < (g62 1020 0))) → (0 ≤ (g62 1024 0) ∧ (g62 1024 0) < 12000) ∧ (∀ r73 : Int, sv_R r73 → ∀ g69 : sv_S, (r73 = (g62 1024 0) ∧ (g69 1024 0) = (g62 1024 0) + 1 ∧ (g69 11 r73) = (15 : Int) ∧ (g69 12 (5 * r73)) = (-1 : Int) ∧ (g69 12 (5 * r73 + 1)) = r9 ∧ (g69 12 (5 * r73 + 2)) = r66 ∧ (g69 12 (5 * r73 + 3)) = -1 ∧ (g69 12 (5 * r73 + 4)) = -1 ∧ (g69 13 r73) = -1 ∧ (g69 14 r73) = 0 ∧ (∀ n : Int, n < (g62 1024 0) → (g69 14 n) = (g62 14 n)) ∧ (sm_WF (g62 11) (g62 12) (g62 13) (g62 1100001) (g62 1100002) (g62 1100005) (g62 1100003) (g62 1100004) (g62 1024 0) (g62 1007 0) (g62 1009 0) (g62 1032 0) → sm_WF (g69 11) (g69 12) (g69 13) (g62 1100001) (g62 1100002) (g62 1100005) (g62 1100003) (g62 1100004) (g69 1024 0) (g62 1007 0) (g62 1009 0) (g62 1032 0) ∧ (g62 1100001 r73) = 0) ∧ sm_PS (g62 11) (g62 1100001) (g62 1100002) (g62 1100005) (g62 1100003) (g62 1100004) (g69 11) (g62 1100001) (g62 1100002) (g62 1100005) (g62 1100003) (g62 1100004) (g62 1024 0)) → (sv_R ((if (g62 1021 0) = 0 then 1 else 0))) ∧ (sv_R ((17 * (20 - (S 1023 0)) + 17))) ∧ (sv_R ((20 - (S 1023 0)))) ∧ ((sm_WF (g69 11) (g69 12) (g69 13) (g62 1100001) (g62 1100002) (g62 1100005) (g62 1100003) (g62 1100004) (g69 1024 0) (g62 1007 0) (g62 1009 0) (g62 1032 0) → (g62 1100001 r73) = 0 → 0 ≤ r73 → r73 < (g69 1024 0) → (g69 13 r73) = -1 → ((g62 1021 0) = 0 → (g69 11 r73) = 15 ∧ -1 ≤ (g69 12 (5 * r73)) ∧ (g69 12 (5 * r73)) ≤ 10 ∧ sm_ex (g62 1100001) (g62 1100002) (g62 1100005) (g69 1024 0) 1 (g69 12 (5 * r73 + 1)) (17 * (20 - (S 1023 0)) + 14) (20 - (S 1023 0)) ∧ (g69 12 (5 * r73 + 1)) < r73 ∧ ((g69 11 (g69 12 (5 * r73 + 1))) = 2 ∨ (g69 11 (g69 12 (5 * r73 + 1))) = 7) ∧ sm_ex (g62 1100001) (g62 1100002) (g62 1100005) (g69 1024 0) 1 (g69 12 (5 * r73 + 2)) (17 * (20 - (S 1023 0)) + 14) (19 - (S 1023 0))) → sm_WF (g69 11) (g69 12) (g69 13) (fun i' : Int => if i' = r73 then ((if (g62 1021 0) = 0 then 1 else 0)) else (g62 1100001) i') (fun i' : Int => if i' = r73 then ((17 * (20 - (S 1023 0)) + 17)) else (g62 1100002) i') (fun i' : Int => if i' = r73 then ((20 - (S 1023 0))) else (g62 1100005) i') (fun i' : Int => if i' = r73 then (0 : Int) else (g62 1100003) i') (fun i' : Int => if i' = r73 then (0 : Int) else (g62 1100004) i') (g69 1024 0) (g62 1007 0) (g62 1009 0) (g62 1032 0) ∧ sm_PS (g69 11) (g62 1100001) (g62 1100002) (g62 1100005) (g62 1100003) (g62 1100004) (g69 11) (fun i' : Int => if i' = r73 then ((if (g62 1021 0) = 0 then 1 else 0)) else (g62 1100001) i') (fun i' : Int => if i' = r73 then ((17 * (20 - (S 1023 0)) + 17)) else (g62 1100002) i') (fun i' : Int => if i' = r73 then ((20 - (S 1023 0))) else (g62 1100005) i') (fun i' : Int => if i' = r73 then (0 : Int) else (g62 1100003) i') (fun i' : Int => if i' = r73 then (0 : Int) else (g62 1100004) i') (g69 1024 0)) → ((S 1020 0) ≤ (g62 1020 0) ∧ (g62 1020 0) < (S 1012 0) ∧ 0 ≤ (g62 1021 0) ∧ (0 < (S 1021 0) → 0 < (g62 1021 0)) ∧ (S 1007 0) ≤ (g62 1007 0) ∧ (g62 1007 0) ≤ 90 ∧ sm_LN (g62 4) (g62 1007 0) ∧ ((S 1009 0) = 1 → (g62 1009 0) = 1) ∧ sm_WF (g69 11) (g69 12) (g69 13) (fun i' : Int => if i' = r73 then ((if (g62 1021 0) = 0 then 1 else 0)) else (g62 1100001) i') (fun i' : Int => if i' = r73 then ((17 * (20 - (S 1023 0)) + 17)) else (g62 1100002) i') (fun i' : Int => if i' = r73 then ((20 - (S 1023 0))) else (g62 1100005) i') (fun i' : Int => if i' = r73 then (0 : Int) else (g62 1100003) i') (fun i' : Int => if i' = r73 then (0 : Int) else (g62 1100004) i') (g69 1024 0) (g62 1007 0) (g62 1009 0) (g62 1032 0) ∧ sm_PS (S 11) (S 1100001) (S 1100002) (S 1100005) (S 1100003) (S 1100004) (g69 11) (fun i' : Int => if i' = r73 then ((if (g62 1021 0) = 0 then 1 else 0)) else (g62 1100001) i') (fun i' : Int => if i' = r73 then ((17 * (20 - (S 1023 0)) + 17)) else (g62 1100002) i') (fun i' : Int => if i' = r73 then ((20 - (S 1023 0))) else (g62 1100005) i') (fun i' : Int => if i' = r73 then (0 : Int) else (g62 1100003) i') (fun i' : Int => if i' = r73 then (0 : Int) else (g62 1100004) i') (S 1024 0) ∧ sm_KL (S 15) (S 16) (g62 15) (g62 16) (S 1031 0) ∧ sm_HD (g62 23) (g62 24) (g62 1032 0) (g62 1007 0) ∧ sm_HD (g62 25) (fun _ : Int => (g62 1042 0)) 1 (g62 1007 0) ∧ (g62 1031 0) = (S 1031 0) ∧ (g62 1043 0) = (S 1043 0) ∧ (g62 1044 0) = (S 1044 0) ∧ (g62 1045 0) = (S 1045 0) ∧ (S 1032 0) ≤ (g62 1032 0) ∧ (g62 1032 0) ≤ 1 + (g62 1020 0) ∧ (S 1024 0) ≤ (g69 1024 0) ∧ ((g62 1021 0) = 0 → (g62 1023 0) = (S 1023 0) ∧ (g69 1024 0) + 1 ≤ (S 1024 0) + 2 * ((g62 1020 0) - (S 1020 0))) ∧ (0 < (g62 1021 0) → (g69 1024 0) ≤ (S 1024 0) + 2 * ((g62 1020 0) - (S 1020 0)) + 2 * ((if 0 < (S 1021 0) then 12 else 30 * (20 - (S 1023 0)) + 25))) ∧ -1 ≤ r73 ∧ r73 < 12000 ∧ ((g62 1021 0) = 0 → (S 1020 0) < (g62 1020 0) ∧ 1 ≤ (S 6 (S 1020 0)) ∧ sm_ex (fun i' : Int => if i' = r73 then ((if (g62 1021 0) = 0 then 1 else 0)) else (g62 1100001) i') (fun i' : Int => if i' = r73 then ((17 * (20 - (S 1023 0)) + 17)) else (g62 1100002) i') (fun i' : Int => if i' = r73 then ((20 - (S 1023 0))) else (g62 1100005) i') (g69 1024 0) 1 r73 (17 * (20 - (S 1023 0)) + 17) (20 - (S 1023 0)) ∧ ((g69 11 r73) = 2 ∨ (g69 11 r73) = 7 → (if r73 = r73 then ((17 * (20 - (S 1023 0)) + 17)) else (g62 1100002 r73)) ≤ 17 * (20 - (S 1023 0)) + 2)) ∧ (0 < (S 1021 0) → (g62 1020 0) = (S 1020 0) ∧ (g69 1024 0) = (S 1024 0)))))))))) ∧ ((¬ (¬ r24 = (0 : Int))) → (0 ≤ (g5 1020 0) ∧ (g5 1020 0) ≤ 4000 ∧ 0 ≤ (g5 1021 0) ∧ 1 ≤ (3 : Int)) ∧ (∀ r94 : Int, sv_R r94 → ∀ g90 : sv_S, (r94 = 0 ∧ 0 < (g90 1021 0) ∧ (0 < (g5 1021 0) → (g90 1021 0) = (g5 1021 0))) → ((S 1020 0) ≤ (g5 1020 0) ∧ (g5 1020 0) < (S 1012 0) ∧ 0 ≤ (g90 1021 0) ∧ (0 < (S 1021 0) → 0 < (g90 1021 0)) ∧ (S 1007 0) ≤ (g5 1007 0) ∧ (g5 1007 0) ≤ 90 ∧ sm_LN (g5 4) (g5 1007 0) ∧ ((S 1009 0) = 1 → (g5 1009 0) = 1) ∧ sm_WF (g5 11) (g5 12) (g5 13) (g5 1100001) (g5 1100002) (g5 1100005) (g5 1100003) (g5 1100004) (g5 1024 0) (g5 1007 0) (g5 1009 0) (g5 1032 0) ∧ sm_PS (S 11) (S 1100001) (S 1100002) (S 1100005) (S 1100003) (S 1100004) (g5 11) (g5 1100001) (g5 1100002) (g5 1100005) (g5 1100003) (g5 1100004) (S 1024 0) ∧ sm_KL (S 15) (S 16) (g5 15) (g5 16) (S 1031 0) ∧ sm_HD (g5 23) (g5 24) (g5 1032 0) (g5 1007 0) ∧ sm_HD (g5 25) (fun _ : Int => (g5 1042 0)) 1 (g5 1007 0) ∧ (g5 1031 0) = (S 1031 0) ∧ (g5 1043 0) = (S 1043 0) ∧ (g5 1044 0) = (S 1044 0) ∧ (g5 1045 0) = (S 1045 0) ∧ (S 1032 0) ≤ (g5 1032 0) ∧ (g5 1032 0) ≤ 1 + (g5 1020 0) ∧ (S 1024 0) ≤ (g5 1024 0) ∧ ((g90 1021 0) = 0 → (g5 1023 0) = (S 1023 0) ∧ (g5 1024 0) + 1 ≤ (S 1024 0) + 2 * ((g5 1020 0) - (S 1020 0))) ∧ (0 < (g90 1021 0) → (g5 1024 0) ≤ (S 1024 0) + 2 * ((g5 1020 0) - (S 1020 0)) + 2 * ((if 0 < (S 1021 0) then 12 else 30 * (20 - (S 1023 0)) + 25))) ∧ -1 ≤ (-1 : Int) ∧ (-1 : Int) < 12000 ∧ ((g90 1021 0) = 0 → (S 1020 0) < (g5 1020 0) ∧ 1 ≤ (S 6 (S 1020 0)) ∧ sm_ex (g5 1100001) (g5 1100002) (g5 1100005) (g5 1024 0) 1 (-1 : Int) (17 * (20 - (S 1023 0)) + 17) (20 - (S 1023 0)) ∧ ((g5 11 (-1 : Int)) = 2 ∨ (g5 11 (-1 : Int)) = 7 → (g5 1100002 (-1 : Int)) ≤ 17 * (20 - (S 1023 0)) + 2)) ∧ (0 < (S 1021 0) → (g5 1020 0) = (S 1020 0) ∧ (g5 1024 0) = (S 1024 0)))))))) ∧ ((¬ (¬ r18 = (-1 : Int))) → ((S 1020 0) ≤ (g5 1020 0) ∧ (g5 1020 0) < (S 1012 0) ∧ 0 ≤ (g5 1021 0) ∧ (0 < (S 1021 0) → 0 < (g5 1021 0)) ∧ (S 1007 0) ≤ (g5 1007 0) ∧ (g5 1007 0) ≤ 90 ∧ sm_LN (g5 4) (g5 1007 0) ∧ ((S 1009 0) = 1 → (g5 1009 0) = 1) ∧ sm_WF (g5 11) (g5 12) (g5 13) (g5 1100001) (g5 1100002) (g5 1100005) (g5 1100003) (g5 1100004) (g5 1024 0) (g5 1007 0) (g5 1009 0) (g5 1032 0) ∧ sm_PS (S 11) (S 1100001) (S 1100002) (S 1100005) (S 1100003) (S 1100004) (g5 11) (g5 1100001) (g5 1100002) (g5 1100005) (g5 1100003) (g5 1100004) (S 1024 0) ∧ sm_KL (S 15) (S 16) (g5 15) (g5 16) (S 1031 0) ∧ sm_HD (g5 23) (g5 24) (g5 1032 0) (g5 1007 0) ∧ sm_HD (g5 25) (fun _ : Int => (g5 1042 0)) 1 (g5 1007 0) ∧ (g5 1031 0) = (S 1031 0) ∧ (g5 1043 0) = (S 1043 0) ∧ (g5 1044 0) = (S 1044 0) ∧ (g5 1045 0) = (S 1045 0) ∧ (S 1032 0) ≤ (g5 1032 0) ∧ (g5 1032 0) ≤ 1 + (g5 1020 0) ∧ (S 1024 0) ≤ (g5 1024 0) ∧ ((g5 1021 0) = 0 → (g5 1023 0) = (S 1023 0) ∧ (g5 1024 0) + 1 ≤ (S 1024 0) + 2 * ((g5 1020 0) - (S 1020 0))) ∧ (0 < (g5 1021 0) → (g5 1024 0) ≤ (S 1024 0) + 2 * ((g5 1020 0) - (S 1020 0)) + 2 * ((if 0 < (S 1021 0) then 12 else 30 * (20 - (S 1023 0)) + 25))) ∧ -1 ≤ r9 ∧ r9 < 12000 ∧ ((g5 1021 0) = 0 → (S 1020 0) < (g5 1020 0) ∧ 1 ≤ (S 6 (S 1020 0)) ∧ sm_ex (g5 1100001) (g5 1100002) (g5 1100005) (g5 1024 0) 1 r9 (17 * (20 - (S 1023 0)) + 17) (20 - (S 1023 0)) ∧ ((g5 11 r9) = 2 ∨ (g5 11 r9) = 7 → (g5 1100002 r9) ≤ 17 * (20 - (S 1023 0)) + 2)) ∧ (0 < (S 1021 0) → (g5 1020 0) = (S 1020 0) ∧ (g5 1024 0) = (S 1024 0))))))) ∧ ((¬ ((g5 1021 0) ≤ (0 : Int))) → ((S 1020 0) ≤ (g5 1020 0) ∧ (g5 1020 0) < (S 1012 0) ∧ 0 ≤ (g5 1021 0) ∧ (0 < (S 1021 0) → 0 < (g5 1021 0)) ∧ (S 1007 0) ≤ (g5 1007 0) ∧ (g5 1007 0) ≤ 90 ∧ sm_LN (g5 4) (g5 1007 0) ∧ ((S 1009 0) = 1 → (g5 1009 0) = 1) ∧ sm_WF (g5 11) (g5 12) (g5 13) (g5 1100001) (g5 1100002) (g5 1100005) (g5 1100003) (g5 1100004) (g5 1024 0) (g5 1007 0) (g5 1009 0) (g5 1032 0) ∧ sm_PS (S 11) (S 1100001) (S 1100002) (S 1100005) (S 1100003) (S 1100004) (g5 11) (g5 1100001) (g5 1100002) (g5 1100005) (g5 1100003) (g5 1100004) (S 1024 0) ∧ sm_KL (S 15) (S 16) (g5 15) (g5 16) (S 1031 0) ∧ sm_HD (g5 23) (g5 24) (g5 1032 0) (g5 1007 0) ∧ sm_HD (g5 25) (fun _ : Int => (g5 1042 0)) 1 (g5 1007 0) ∧ (g5 1031 0) = (S 1031 0) ∧ (g5 1043 0) = (S 1043 0) ∧ (g5 1044 0) = (S 1044 0) ∧ (g5 1045 0) = (S 1045 0) ∧ (S 1032 0) ≤ (g5 1032 0) ∧ (g5 1032 0) ≤ 1 + (g5 1020 0) ∧ (S 1024 0) ≤ (g5 1024 0) ∧ ((g5 1021 0) = 0 → (g5 1023 0) = (S 1023 0) ∧ (g5 1024 0) + 1 ≤ (S 1024 0) + 2 * ((g5 1020 0) - (S 1020 0))) ∧ (0 < (g5 1021 0) → (g5 1024 0) ≤ (S 1024 0) + 2 * ((g5 1020 0) - (S 1020 0)) + 2 * ((if 0 < (S 1021 0) then 12 else 30 * (20 - (S 1023 0)) + 25))) ∧ -1 ≤ (-1 : Int) ∧ (-1 : Int) < 12000 ∧ ((g5 1021 0) = 0 → (S 1020 0) < (g5 1020 0) ∧ 1 ≤ (S 6 (S 1020 0)) ∧ sm_ex (g5 1100001) (g5 1100002) (g5 1100005) (g5 1024 0) 1 (-1 : Int) (17 * (20 - (S 1023 0)) + 17) (20 - (S 1023 0)) ∧ ((g5 11 (-1 : Int)) = 2 ∨ (g5 11 (-1 : Int)) = 7 → (g5 1100002 (-1 : Int)) ≤ 17 * (20 - (S 1023 0)) + 2)) ∧ (0 < (S 1021 0) → (g5 1020 0) = (S 1020 0) ∧ (g5 1024 0) = (S 1024 0))))))) := by
  intro d
  intro p1
  intro S
  intro h1_
  rintro ⟨h2_, h3_⟩
  rintro ⟨h4_, ⟨h5_, ⟨h6_, ⟨h7_, ⟨h8_, ⟨h9_, ⟨h10_, ⟨h11_, ⟨h12_, ⟨h13_, ⟨h14_, ⟨h15_, ⟨h16_, ⟨h17_, ⟨h18_, ⟨h19_, ⟨h20_, ⟨h21_, ⟨h22_, ⟨h23_, ⟨h24_, ⟨h25_, h26_⟩⟩⟩⟩⟩⟩⟩⟩⟩⟩⟩⟩⟩⟩⟩⟩⟩⟩⟩⟩⟩⟩
  intro h27_
  refine ⟨(la_assigned_0 h2_ h3_), ?_⟩
  refine ⟨⟨h4_, ⟨h5_, ⟨h6_, ⟨h7_, ⟨h8_, ⟨h9_, ⟨h10_, ⟨h11_, ⟨h12_, ⟨h13_, ⟨h14_, ⟨h15_, (la_assigned_1 h16_ h17_ h18_ h19_ h20_ h21_ h22_ h23_ h24_ h25_ h26_)⟩⟩⟩⟩⟩⟩⟩⟩⟩⟩⟩⟩, ?_⟩
  refine ⟨?_, ?_⟩
  · skip
    refine ⟨?_, ?_⟩
    · skip
      by_cases c28_ : 0 < S 1021 0
      · skip
        have e29_ : (if 0 < S 1021 0 then 12 else 30 * (20 - S 1023 0) + 25 : Int) = 12 := if_pos c28_
        have e30_ : (if 0 < S 1021 0 then 11 else 30 * (20 - S 1023 0) + 24 : Int) = 11 := if_pos c28_
        exact (la_assigned_2 e30_)
      · skip
        have e31_ : (if 0 < S 1021 0 then 12 else 30 * (20 - S 1023 0) + 25 : Int) = 30 * (20 - S 1023 0) + 25 := if_neg c28_
        have e32_ : (if 0 < S 1021 0 then 11 else 30 * (20 - S 1023 0) + 24 : Int) = 30 * (20 - S 1023 0) + 24 := if_neg c28_
        exact (la_assigned_3 h7_ h26_ c28_ e32_)
    by_cases c33_ : 0 < S 1021 0
    · skip
      have e34_ : (if 0 < S 1021 0 then 12 else 30 * (20 - S 1023 0) + 25 : Int) = 12 := if_pos c33_
      have e35_ : (if 0 < S 1021 0 then 11 else 30 * (20 - S 1023 0) + 24 : Int) = 11 := if_pos c33_
      exact (la_assigned_4 h27_ e34_ e35_)
    · skip
      have e36_ : (if 0 < S 1021 0 then 12 else 30 * (20 - S 1023 0) + 25 : Int) = 30 * (20 - S 1023 0) + 25 := if_neg c33_
      have e37_ : (if 0 < S 1021 0 then 11 else 30 * (20 - S 1023 0) + 24 : Int) = 30 * (20 - S 1023 0) + 24 := if_neg c33_
      exact (la_assigned_5 h27_ e36_ e37_)
  refine ⟨?_, ?_⟩
  · skip
    refine ⟨?_, ?_⟩
    · skip
      by_cases c38_ : 0 < S 1021 0
      · skip
        have e39_ : (if 0 < S 1021 0 then 12 else 30 * (20 - S 1023 0) + 25 : Int) = 12 := if_pos c38_
        have e40_ : (if 0 < S 1021 0 then 11 else 30 * (20 - S 1023 0) + 24 : Int) = 11 := if_pos c38_
        exact (la_assigned_2 e40_)
      · skip
        have e41_ : (if 0 < S 1021 0 then 12 else 30 * (20 - S 1023 0) + 25 : Int) = 30 * (20 - S 1023 0) + 25 := if_neg c38_
        have e42_ : (if 0 < S 1021 0 then 11 else 30 * (20 - S 1023 0) + 24 : Int) = 30 * (20 - S 1023 0) + 24 := if_neg c38_
        exact (la_assigned_3 h7_ h26_ c38_ e42_)
    by_cases c43_ : 0 < S 1021 0
    · skip
      have e44_ : (if 0 < S 1021 0 then 12 else 30 * (20 - S 1023 0) + 25 : Int) = 12 := if_pos c43_
      have e45_ : (if 0 < S 1021 0 then 11 else 30 * (20 - S 1023 0) + 24 : Int) = 11 := if_pos c43_
      exact (la_assigned_6 e44_ e45_)
    · skip
      have e46_ : (if 0 < S 1021 0 then 12 else 30 * (20 - S 1023 0) + 25 : Int) = 30 * (20 - S 1023 0) + 25 := if_neg c43_
      have e47_ : (if 0 < S 1021 0 then 11 else 30 * (20 - S 1023 0) + 24 : Int) = 30 * (20 - S 1023 0) + 24 := if_neg c43_
      exact (la_assigned_7 e46_ e47_)
  intro r9
  intro h48_
  intro g5
  rintro ⟨h49_, ⟨h50_, ⟨h51_, ⟨h52_, ⟨h53_, ⟨h54_, ⟨h55_, ⟨h56_, ⟨h57_, ⟨h58_, ⟨h59_, ⟨h60_, ⟨h61_, ⟨h62_, ⟨h63_, ⟨h64_, ⟨h65_, ⟨h66_, ⟨h67_, ⟨h68_, ⟨h69_, ⟨h70_, ⟨h71_, ⟨h72_, ⟨h73_, h74_⟩⟩⟩⟩⟩⟩⟩⟩⟩⟩⟩⟩⟩⟩⟩⟩⟩⟩⟩⟩⟩⟩⟩⟩⟩
  intro h75_
  refine ⟨?_, ?_⟩
  · skip
    intro h76_
    have e77_ : (if 0 < S 1021 0 then 12 else 30 * (20 - S 1023 0) + 25 : Int) = 30 * (20 - S 1023 0) + 25 := if_neg (la_assigned_8 h52_ h76_)
    have e78_ : (if 0 < S 1021 0 then 11 else 30 * (20 - S 1023 0) + 24 : Int) = 30 * (20 - S 1023 0) + 24 := if_neg (la_assigned_8 h52_ h76_)
    obtain ⟨h79_, ⟨h80_, ⟨h81_, h82_⟩⟩⟩ := (h73_ (la_assigned_9 h51_ h76_))
    refine ⟨(la_assigned_10 h4_ (sm_TK_t h6_).2 h50_ h79_), ?_⟩
    refine ⟨(la_assigned_11 h7_ h26_ h52_ h76_ e77_), ?_⟩
    intro r18
    intro h83_
    rintro ⟨h84_, ⟨h85_, h86_⟩⟩
    refine ⟨?_, ?_⟩
    · skip
      intro h87_
      refine ⟨(la_assigned_12 h72_ (sm_ex_e h81_).1), ?_⟩
      intro r24
      intro h88_
      rintro ⟨h89_, h90_⟩
      refine ⟨?_, ?_⟩
      · skip
        intro h91_
        intro h92_
        refine ⟨(la_assigned_13 h4_ (sm_TK_t h6_).2 h50_ h79_), ?_⟩
        refine ⟨?_, ?_⟩
        · skip
          intro h93_
          refine ⟨?_, ?_⟩
          · skip
            refine ⟨(la_assigned_14 h4_ h79_), ?_⟩
            refine ⟨?_, ?_⟩
            · skip
              exact (la_assigned_16 h84_ h86_ h87_ (sm_TK_go h6_ (g5 1020 0) (la_assigned_15 h4_ h79_) h50_))
            refine ⟨h6_, ?_⟩
            refine ⟨h51_, ?_⟩
            refine ⟨h8_, ?_⟩
            refine ⟨h9_, ?_⟩
            refine ⟨(la_assigned_17 h10_ h53_), ?_⟩
            refine ⟨h54_, ?_⟩
            refine ⟨h55_, ?_⟩
            refine ⟨h57_, ?_⟩
            refine ⟨h60_, ?_⟩
            refine ⟨h61_, ?_⟩
            refine ⟨(la_assigned_18 h16_ h63_), ?_⟩
            refine ⟨(la_assigned_19 h17_ h63_ h66_), ?_⟩
            refine ⟨(la_assigned_20 h67_), ?_⟩
            refine ⟨(la_assigned_18 h19_ h62_), ?_⟩
            refine ⟨(la_assigned_21 h20_ h62_), ?_⟩
            refine ⟨(la_assigned_18 h21_ h64_), ?_⟩
            refine ⟨(la_assigned_22 h22_ h64_), ?_⟩
            refine ⟨(la_assigned_18 h23_ h65_), ?_⟩
            refine ⟨(la_assigned_22 h24_ h65_), ?_⟩
            refine ⟨(la_assigned_15 (sm_ex_e h81_).1 (sm_ex_e h81_).2.1), ?_⟩
            refine ⟨(la_assigned_23 h7_ h26_ h52_ h62_ h64_ h65_ h69_), ?_⟩
            exact (la_assigned_9 h51_ h76_)
          refine ⟨(la_assigned_24 h7_ h26_ h27_ h51_ h52_ h69_ h76_ e77_), ?_⟩
          refine ⟨(la_assigned_25 h7_ h26_ h51_ h52_ h69_ h76_ e77_), ?_⟩
          intro r36
          intro h94_
          intro g32
          rintro ⟨h95_, ⟨h96_, ⟨h97_, ⟨h98_, ⟨h99_, ⟨h100_, ⟨h101_, ⟨h102_, ⟨h103_, ⟨h104_, ⟨h105_, ⟨h106_, ⟨h107_, ⟨h108_, ⟨h109_, ⟨h110_, ⟨h111_, ⟨h112_, ⟨h113_, ⟨h114_, ⟨h115_, ⟨h116_, ⟨h117_, ⟨h118_, h119_⟩⟩⟩⟩⟩⟩⟩⟩⟩⟩⟩⟩⟩⟩⟩⟩⟩⟩⟩⟩⟩⟩⟩⟩
          refine ⟨(la_assigned_26 (sm_TK_t h6_).2 h7_ h26_ h51_ h52_ h69_ h76_ (sm_ex_e h81_).1 (sm_ex_e h81_).2.1 h96_ h97_ h114_ h115_ h116_), ?_⟩
          intro r43
          intro h120_
          intro g39
          rintro ⟨h121_, ⟨h122_, ⟨h123_, ⟨h124_, ⟨h125_, ⟨h126_, ⟨h127_, ⟨h128_, ⟨h129_, ⟨h130_, ⟨h131_, ⟨h132_, h133_⟩⟩⟩⟩⟩⟩⟩⟩⟩⟩⟩⟩
          obtain ⟨h134_, h135_⟩ := (h132_ h103_)
          refine ⟨?_, ?_⟩
          · skip
            have h136_ := (h131_ r43)
            by_cases c137_ : g32 1021 0 = 0
            · skip
              have e138_ : (if g32 1021 0 = 0 then 1 else 0 : Int) = 1 := if_pos c137_
              obtain ⟨h139_, h140_⟩ := (h119_ c137_)
              exact (la_assigned_27 e138_)
            · skip
              have e141_ : (if g32 1021 0 = 0 then 1 else 0 : Int) = 0 := if_neg c137_
              exact (la_assigned_28 e141_)
          refine ⟨(la_assigned_29 h7_ h26_ h52_ h76_), ?_⟩
          refine ⟨(la_assigned_30 h7_ h26_ h52_ h76_ e78_), ?_⟩
          intro h142_
          have h143_ := (h142_ h134_)
          have h144_ := (h143_ h135_)
          have h145_ := (h144_ (la_assigned_31 (sm_ex_e h81_).1 (sm_ex_e h81_).2.1 h114_ h121_))
          have h146_ := (h145_ (la_assigned_32 h121_ h122_))
          have h147_ := (h146_ h129_)
          have h154_ : g32 1021 0 = 0 → g39 11 r43 = 15 ∧ (-1) ≤ g39 12 (5 * r43) ∧ g39 12 (5 * r43) ≤ 10 ∧ sm_ex (g32 1100001) (g32 1100002) (g32 1100005) (g39 1024 0) 1 (g39 12 (5 * r43 + 1)) (17 * (20 - S 1023 0) + 14) (20 - S 1023 0) ∧ g39 12 (5 * r43 + 1) < r43 ∧ (g39 11 (g39 12 (5 * r43 + 1)) = 2 ∨ g39 11 (g39 12 (5 * r43 + 1)) = 7) ∧ sm_ex (g32 1100001) (g32 1100002) (g32 1100005) (g39 1024 0) 1 (g39 12 (5 * r43 + 2)) (17 * (20 - S 1023 0) + 14) (19 - S 1023 0) := by
            intro h148_
            obtain ⟨h149_, h150_⟩ := (h119_ h148_)
            refine ⟨h123_, ?_⟩
            refine ⟨(la_assigned_33 h84_ h124_), ?_⟩
            refine ⟨(la_assigned_34 h85_ h93_ h124_), ?_⟩
            refine ⟨?_, ?_⟩
            · skip
              have h151_ := (h131_ r43)
              exact (sm_ex_eq h125_ (sm_ex_i (sm_ex_e h81_).1 (la_assigned_36 (sm_ex_e h81_).2.1 h114_ h122_) (la_assigned_42 (sm_ex_e h81_).2.2.1 (sm_PS_at h104_ r9 (sm_ex_e h81_).1 (sm_ex_e h81_).2.1 (la_assigned_38 (sm_ex_e h81_).2.2.1)).1) (la_assigned_43 h82_ h89_ h90_ h91_ (sm_PS_at h104_ r9 (sm_ex_e h81_).1 (sm_ex_e h81_).2.1 (la_assigned_38 (sm_ex_e h81_).2.2.1)).2.1) (la_assigned_44 (sm_ex_e h81_).2.2.2.2 (sm_PS_at h104_ r9 (sm_ex_e h81_).1 (sm_ex_e h81_).2.1 (la_assigned_38 (sm_ex_e h81_).2.2.1)).2.2.1)))
            refine ⟨(la_assigned_45 (sm_ex_e h81_).2.1 h114_ h121_ h125_), ?_⟩
            refine ⟨?_, ?_⟩
            · skip
              have h152_ := (h131_ r43)
              have e153_ := congrArg ((g39 11)) (la_assigned_46 h125_)
              exact (la_assigned_47 h70_ h89_ h90_ h91_ (sm_PS_at h104_ r9 (sm_ex_e h81_).1 (sm_ex_e h81_).2.1 (la_assigned_38 (sm_ex_e h81_).2.2.1)).2.2.2.2.2 (sm_PS_at h133_ r9 (sm_ex_e h81_).1 (la_assigned_40 (sm_ex_e h81_).2.1 h114_) (la_assigned_41 (sm_ex_e h81_).2.2.1 (sm_PS_at h104_ r9 (sm_ex_e h81_).1 (sm_ex_e h81_).2.1 (la_assigned_38 (sm_ex_e h81_).2.2.1)).1)).2.2.2.2.2 e153_)
            exact (sm_ex_eq h126_ (sm_ex_N (sm_ex_w h149_ (la_assigned_48 h51_ h69_ h76_) (la_assigned_49 h51_ h69_ h76_)) (la_assigned_50 h122_)))
          obtain ⟨h155_, h156_⟩ := (h147_ h154_)
          refine ⟨(la_assigned_51 h79_ h95_), ?_⟩
          refine ⟨h96_, ?_⟩
          refine ⟨h97_, ?_⟩
          refine ⟨(la_assigned_52 h52_ h76_), ?_⟩
          refine ⟨(la_assigned_53 h53_ h99_), ?_⟩
          refine ⟨h100_, ?_⟩
          refine ⟨h101_, ?_⟩
          refine ⟨(la_assigned_54 h56_ h102_), ?_⟩
          refine ⟨h155_, ?_⟩
          refine ⟨(sm_PS_tr (sm_PS_le h58_ (Int.le_refl _)) (sm_PS_tr (sm_PS_le h104_ h68_) (sm_PS_tr (sm_PS_le h133_ (la_assigned_53 h68_ h114_)) (sm_PS_le h156_ (la_assigned_55 h68_ h114_ h122_)) (Int.le_refl _)) (Int.le_refl _)) (Int.le_refl _)), ?_⟩
          refine ⟨(sm_KL_tr (sm_KL_le h59_ (Int.le_refl _)) (sm_KL_le h105_ (la_assigned_56 h62_)) (Int.le_refl _)), ?_⟩
          refine ⟨h106_, ?_⟩
          refine ⟨h107_, ?_⟩
          refine ⟨(la_assigned_57 h62_ h108_), ?_⟩
          refine ⟨(la_assigned_57 h63_ h109_), ?_⟩
          refine ⟨(la_assigned_57 h64_ h110_), ?_⟩
          refine ⟨(la_assigned_57 h65_ h111_), ?_⟩
          refine ⟨(la_assigned_53 h66_ h112_), ?_⟩
          refine ⟨h113_, ?_⟩
          refine ⟨(la_assigned_55 h68_ h114_ h122_), ?_⟩
          refine ⟨(la_assigned_58 h51_ h69_ h76_ h115_ h122_), ?_⟩
          refine ⟨(la_assigned_59 h7_ h26_ h51_ h52_ h69_ h76_ e77_ h115_ h116_ h122_), ?_⟩
          refine ⟨(la_assigned_60 (sm_ex_e h81_).1 (sm_ex_e h81_).2.1 h114_ h121_), ?_⟩
          refine ⟨(la_assigned_61 (sm_TK_t h6_).2 h7_ h26_ h51_ h52_ h69_ h76_ h96_ h97_ h115_ h116_ h121_), ?_⟩
          refine ⟨?_, ?_⟩
          · skip
            intro h157_
            obtain ⟨h158_, h159_⟩ := (h119_ h157_)
            refine ⟨(la_assigned_62 h79_ h159_), ?_⟩
            refine ⟨h80_, ?_⟩
            refine ⟨(sm_ex_if (la_assigned_63 h121_ (sm_ex_e h158_).1 (sm_ex_e h158_).2.1) (la_assigned_32 h121_ h122_) (if_pos h157_) la_assigned_64 la_assigned_65), ?_⟩
            intro h160_
            have h161_ := (h131_ r43)
            have e162_ : (if r43 = r43 then 17 * (20 - S 1023 0) + 17 else g32 1100002 r43 : Int) = 17 * (20 - S 1023 0) + 17 := if_pos la_assigned_66
            exact ((la_assigned_67 h123_ h160_)).elim
          intro h163_
          refine ⟨(la_assigned_68 h52_ h76_ h79_ h95_ h163_), ?_⟩
          exact (la_assigned_69 h52_ h68_ h76_ h114_ h122_ h163_)
        intro h164_
        refine ⟨?_, ?_⟩
        · skip
          refine ⟨(la_assigned_14 h4_ h79_), ?_⟩
          refine ⟨?_, ?_⟩
          · skip
            exact (la_assigned_70 h86_ h164_ (sm_TK_go h6_ (g5 1020 0) (la_assigned_15 h4_ h79_) h50_))
          refine ⟨h6_, ?_⟩
          refine ⟨h51_, ?_⟩
          refine ⟨h8_, ?_⟩
          refine ⟨h9_, ?_⟩
          refine ⟨(la_assigned_17 h10_ h53_), ?_⟩
          refine ⟨h54_, ?_⟩
          refine ⟨h55_, ?_⟩
          refine ⟨h57_, ?_⟩
          refine ⟨h60_, ?_⟩
          refine ⟨h61_, ?_⟩
          refine ⟨(la_assigned_18 h16_ h63_), ?_⟩
          refine ⟨(la_assigned_19 h17_ h63_ h66_), ?_⟩
          refine ⟨(la_assigned_20 h67_), ?_⟩
          refine ⟨(la_assigned_18 h19_ h62_), ?_⟩
          refine ⟨(la_assigned_21 h20_ h62_), ?_⟩
          refine ⟨(la_assigned_18 h21_ h64_), ?_⟩
          refine ⟨(la_assigned_22 h22_ h64_), ?_⟩
          refine ⟨(la_assigned_18 h23_ h65_), ?_⟩
          refine ⟨(la_assigned_22 h24_ h65_), ?_⟩
          refine ⟨(la_assigned_15 (sm_ex_e h81_).1 (sm_ex_e h81_).2.1), ?_⟩
          refine ⟨(la_assigned_23 h7_ h26_ h52_ h62_ h64_ h65_ h69_), ?_⟩
          exact (la_assigned_9 h51_ h76_)
        refine ⟨(la_assigned_24 h7_ h26_ h27_ h51_ h52_ h69_ h76_ e77_), ?_⟩
        refine ⟨(la_assigned_25 h7_ h26_ h51_ h52_ h69_ h76_ e77_), ?_⟩
        intro r66
        intro h165_
        intro g62
        rintro ⟨h166_, ⟨h167_, ⟨h168_, ⟨h169_, ⟨h170_, ⟨h171_, ⟨h172_, ⟨h173_, ⟨h174_, ⟨h175_, ⟨h176_, ⟨h177_, ⟨h178_, ⟨h179_, ⟨h180_, ⟨h181_, ⟨h182_, ⟨h183_, ⟨h184_, ⟨h185_, ⟨h186_, ⟨h187_, ⟨h188_, ⟨h189_, h190_⟩⟩⟩⟩⟩⟩⟩⟩⟩⟩⟩⟩⟩⟩⟩⟩⟩⟩⟩⟩⟩⟩⟩⟩
        refine ⟨(la_assigned_26 (sm_TK_t h6_).2 h7_ h26_ h51_ h52_ h69_ h76_ (sm_ex_e h81_).1 (sm_ex_e h81_).2.1 h167_ h168_ h185_ h186_ h187_), ?_⟩
        intro r73
        intro h191_
        intro g69
        rintro ⟨h192_, ⟨h193_, ⟨h194_, ⟨h195_, ⟨h196_, ⟨h197_, ⟨h198_, ⟨h199_, ⟨h200_, ⟨h201_, ⟨h202_, ⟨h203_, h204_⟩⟩⟩⟩⟩⟩⟩⟩⟩⟩⟩⟩
        obtain ⟨h205_, h206_⟩ := (h203_ h174_)
        refine ⟨?_, ?_⟩
        · skip
          have h207_ := (h202_ r73)
          by_cases c208_ : g62 1021 0 = 0
          · skip
            have e209_ : (if g62 1021 0 = 0 then 1 else 0 : Int) = 1 := if_pos c208_
            obtain ⟨h210_, h211_⟩ := (h190_ c208_)
            exact (la_assigned_27 e209_)
          · skip
            have e212_ : (if g62 1021 0 = 0 then 1 else 0 : Int) = 0 := if_neg c208_
            exact (la_assigned_28 e212_)
        refine ⟨(la_assigned_29 h7_ h26_ h52_ h76_), ?_⟩
        refine ⟨(la_assigned_30 h7_ h26_ h52_ h76_ e78_), ?_⟩
        intro h213_
        have h214_ := (h213_ h205_)
        have h215_ := (h214_ h206_)
        have h216_ := (h215_ (la_assigned_31 (sm_ex_e h81_).1 (sm_ex_e h81_).2.1 h185_ h192_))
        have h217_ := (h216_ (la_assigned_32 h192_ h193_))
        have h218_ := (h217_ h200_)
        have h225_ : g62 1021 0 = 0 → g69 11 r73 = 15 ∧ (-1) ≤ g69 12 (5 * r73) ∧ g69 12 (5 * r73) ≤ 10 ∧ sm_ex (g62 1100001) (g62 1100002) (g62 1100005) (g69 1024 0) 1 (g69 12 (5 * r73 + 1)) (17 * (20 - S 1023 0) + 14) (20 - S 1023 0) ∧ g69 12 (5 * r73 + 1) < r73 ∧ (g69 11 (g69 12 (5 * r73 + 1)) = 2 ∨ g69 11 (g69 12 (5 * r73 + 1)) = 7) ∧ sm_ex (g62 1100001) (g62 1100002) (g62 1100005) (g69 1024 0) 1 (g69 12 (5 * r73 + 2)) (17 * (20 - S 1023 0) + 14) (19 - S 1023 0) := by
          intro h219_
          obtain ⟨h220_, h221_⟩ := (h190_ h219_)
          refine ⟨h194_, ?_⟩
          refine ⟨(la_assigned_71 h195_), ?_⟩
          refine ⟨(la_assigned_72 h195_), ?_⟩
          refine ⟨?_, ?_⟩
          · skip
            have h222_ := (h202_ r73)
            exact (sm_ex_eq h196_ (sm_ex_i (sm_ex_e h81_).1 (la_assigned_36 (sm_ex_e h81_).2.1 h185_ h193_) (la_assigned_42 (sm_ex_e h81_).2.2.1 (sm_PS_at h175_ r9 (sm_ex_e h81_).1 (sm_ex_e h81_).2.1 (la_assigned_38 (sm_ex_e h81_).2.2.1)).1) (la_assigned_43 h82_ h89_ h90_ h91_ (sm_PS_at h175_ r9 (sm_ex_e h81_).1 (sm_ex_e h81_).2.1 (la_assigned_38 (sm_ex_e h81_).2.2.1)).2.1) (la_assigned_44 (sm_ex_e h81_).2.2.2.2 (sm_PS_at h175_ r9 (sm_ex_e h81_).1 (sm_ex_e h81_).2.1 (la_assigned_38 (sm_ex_e h81_).2.2.1)).2.2.1)))
          refine ⟨(la_assigned_45 (sm_ex_e h81_).2.1 h185_ h192_ h196_), ?_⟩
          refine ⟨?_, ?_⟩
          · skip
            have h223_ := (h202_ r73)
            have e224_ := congrArg ((g69 11)) (la_assigned_46 h196_)
            exact (la_assigned_47 h70_ h89_ h90_ h91_ (sm_PS_at h175_ r9 (sm_ex_e h81_).1 (sm_ex_e h81_).2.1 (la_assigned_38 (sm_ex_e h81_).2.2.1)).2.2.2.2.2 (sm_PS_at h204_ r9 (sm_ex_e h81_).1 (la_assigned_40 (sm_ex_e h81_).2.1 h185_) (la_assigned_41 (sm_ex_e h81_).2.2.1 (sm_PS_at h175_ r9 (sm_ex_e h81_).1 (sm_ex_e h81_).2.1 (la_assigned_38 (sm_ex_e h81_).2.2.1)).1)).2.2.2.2.2 e224_)
          exact (sm_ex_eq h197_ (sm_ex_N (sm_ex_w h220_ (la_assigned_48 h51_ h69_ h76_) (la_assigned_49 h51_ h69_ h76_)) (la_assigned_50 h193_)))
        obtain ⟨h226_, h227_⟩ := (h218_ h225_)
        refine ⟨(la_assigned_51 h79_ h166_), ?_⟩
        refine ⟨h167_, ?_⟩
        refine ⟨h168_, ?_⟩
        refine ⟨(la_assigned_52 h52_ h76_), ?_⟩
        refine ⟨(la_assigned_53 h53_ h170_), ?_⟩
        refine ⟨h171_, ?_⟩
        refine ⟨h172_, ?_⟩
        refine ⟨(la_assigned_54 h56_ h173_), ?_⟩
        refine ⟨h226_, ?_⟩
        refine ⟨(sm_PS_tr (sm_PS_le h58_ (Int.le_refl _)) (sm_PS_tr (sm_PS_le h175_ h68_) (sm_PS_tr (sm_PS_le h204_ (la_assigned_53 h68_ h185_)) (sm_PS_le h227_ (la_assigned_55 h68_ h185_ h193_)) (Int.le_refl _)) (Int.le_refl _)) (Int.le_refl _)), ?_⟩
        refine ⟨(sm_KL_tr (sm_KL_le h59_ (Int.le_refl _)) (sm_KL_le h176_ (la_assigned_56 h62_)) (Int.le_refl _)), ?_⟩
        refine ⟨h177_, ?_⟩
        refine ⟨h178_, ?_⟩
        refine ⟨(la_assigned_57 h62_ h179_), ?_⟩
        refine ⟨(la_assigned_57 h63_ h180_), ?_⟩
        refine ⟨(la_assigned_57 h64_ h181_), ?_⟩
        refine ⟨(la_assigned_57 h65_ h182_), ?_⟩
        refine ⟨(la_assigned_53 h66_ h183_), ?_⟩
        refine ⟨h184_, ?_⟩
        refine ⟨(la_assigned_55 h68_ h185_ h193_), ?_⟩
        refine ⟨(la_assigned_58 h51_ h69_ h76_ h186_ h193_), ?_⟩
        refine ⟨(la_assigned_59 h7_ h26_ h51_ h52_ h69_ h76_ e77_ h186_ h187_ h193_), ?_⟩
        refine ⟨(la_assigned_60 (sm_ex_e h81_).1 (sm_ex_e h81_).2.1 h185_ h192_), ?_⟩
        refine ⟨(la_assigned_61 (sm_TK_t h6_).2 h7_ h26_ h51_ h52_ h69_ h76_ h167_ h168_ h186_ h187_ h192_), ?_⟩
        refine ⟨?_, ?_⟩
        · skip
          intro h228_
          obtain ⟨h229_, h230_⟩ := (h190_ h228_)
          refine ⟨(la_assigned_62 h79_ h230_), ?_⟩
          refine ⟨h80_, ?_⟩
          refine ⟨(sm_ex_if (la_assigned_63 h192_ (sm_ex_e h229_).1 (sm_ex_e h229_).2.1) (la_assigned_32 h192_ h193_) (if_pos h228_) la_assigned_64 la_assigned_65), ?_⟩
          intro h231_
          have h232_ := (h202_ r73)
          have e233_ : (if r73 = r73 then 17 * (20 - S 1023 0) + 17 else g62 1100002 r73 : Int) = 17 * (20 - S 1023 0) + 17 := if_pos la_assigned_66
          exact ((la_assigned_67 h194_ h231_)).elim
        intro h234_
        refine ⟨(la_assigned_68 h52_ h76_ h79_ h166_ h234_), ?_⟩
        exact (la_assigned_69 h52_ h68_ h76_ h185_ h193_ h234_)
      intro h235_
      refine ⟨(la_assigned_73 h4_ (sm_TK_t h6_).2 h50_ h51_ h79_), ?_⟩
      intro r94
      intro h236_
      intro g90
      rintro ⟨h237_, ⟨h238_, h239_⟩⟩
      refine ⟨h49_, ?_⟩
      refine ⟨h50_, ?_⟩
      refine ⟨(la_assigned_74 h238_), ?_⟩
      refine ⟨(la_assigned_75 h238_), ?_⟩
      refine ⟨h53_, ?_⟩
      refine ⟨h54_, ?_⟩
      refine ⟨h55_, ?_⟩
      refine ⟨h56_, ?_⟩
      refine ⟨h57_, ?_⟩
      refine ⟨h58_, ?_⟩
      refine ⟨h59_, ?_⟩
      refine ⟨h60_, ?_⟩
      refine ⟨h61_, ?_⟩
      refine ⟨h62_, ?_⟩
      refine ⟨h63_, ?_⟩
      refine ⟨h64_, ?_⟩
      refine ⟨h65_, ?_⟩
      refine ⟨h66_, ?_⟩
      refine ⟨h67_, ?_⟩
      refine ⟨h68_, ?_⟩
      refine ⟨(la_assigned_76 h238_), ?_⟩
      refine ⟨(la_assigned_77 h7_ h26_ h51_ h52_ h69_ h76_ e77_), ?_⟩
      refine ⟨la_assigned_78, ?_⟩
      refine ⟨la_assigned_79, ?_⟩
      refine ⟨?_, ?_⟩
      · skip
        intro h240_
        refine ⟨h79_, ?_⟩
        refine ⟨h80_, ?_⟩
        refine ⟨(sm_ex_eq (la_assigned_80 (sm_ex_e h81_).1 h238_ h240_) (sm_ex_w h81_ (Int.le_refl _) (Int.le_refl _))), ?_⟩
        intro h241_
        exact (la_assigned_81 h238_ h240_)
      intro h242_
      refine ⟨(la_assigned_82 h52_ h76_ h79_ h242_), ?_⟩
      exact (la_assigned_83 h52_ h68_ h76_ h242_)
    intro h243_
    refine ⟨h49_, ?_⟩
    refine ⟨h50_, ?_⟩
    refine ⟨h51_, ?_⟩
    refine ⟨h52_, ?_⟩
    refine ⟨h53_, ?_⟩
    refine ⟨h54_, ?_⟩
    refine ⟨h55_, ?_⟩
    refine ⟨h56_, ?_⟩
    refine ⟨h57_, ?_⟩
    refine ⟨h58_, ?_⟩
    refine ⟨h59_, ?_⟩
    refine ⟨h60_, ?_⟩
    refine ⟨h61_, ?_⟩
    refine ⟨h62_, ?_⟩
    refine ⟨h63_, ?_⟩
    refine ⟨h64_, ?_⟩
    refine ⟨h65_, ?_⟩
    refine ⟨h66_, ?_⟩
    refine ⟨h67_, ?_⟩
    refine ⟨h68_, ?_⟩
    refine ⟨h69_, ?_⟩
    refine ⟨(la_assigned_84 h76_), ?_⟩
    refine ⟨h71_, ?_⟩
    refine ⟨h72_, ?_⟩
    refine ⟨h73_, ?_⟩
    intro h244_
    refine ⟨(la_assigned_82 h52_ h76_ h79_ h244_), ?_⟩
    exact (la_assigned_83 h52_ h68_ h76_ h244_)
  intro h245_
  refine ⟨h49_, ?_⟩
  refine ⟨h50_, ?_⟩
  refine ⟨h51_, ?_⟩
  refine ⟨h52_, ?_⟩
  refine ⟨h53_, ?_⟩
  refine ⟨h54_, ?_⟩
  refine ⟨h55_, ?_⟩
  refine ⟨h56_, ?_⟩
  refine ⟨h57_, ?_⟩
  refine ⟨h58_, ?_⟩
  refine ⟨h59_, ?_⟩
  refine ⟨h60_, ?_⟩
  refine ⟨h61_, ?_⟩
  refine ⟨h62_, ?_⟩
  refine ⟨h63_, ?_⟩
  refine ⟨h64_, ?_⟩
  refine ⟨h65_, ?_⟩
  refine ⟨h66_, ?_⟩
  refine ⟨h67_, ?_⟩
  refine ⟨h68_, ?_⟩
  refine ⟨h69_, ?_⟩
  refine ⟨?_, ?_⟩
  · skip
    intro h246_
    by_cases c247_ : 0 < S 1021 0
    · skip
      have e248_ : (if 0 < S 1021 0 then 12 else 30 * (20 - S 1023 0) + 25 : Int) = 12 := if_pos c247_
      have e249_ : (if 0 < S 1021 0 then 11 else 30 * (20 - S 1023 0) + 24 : Int) = 11 := if_pos c247_
      exact (la_assigned_86 h70_ h245_ e248_ e249_)
    · skip
      have e250_ : (if 0 < S 1021 0 then 12 else 30 * (20 - S 1023 0) + 25 : Int) = 30 * (20 - S 1023 0) + 25 := if_neg c247_
      have e251_ : (if 0 < S 1021 0 then 11 else 30 * (20 - S 1023 0) + 24 : Int) = 30 * (20 - S 1023 0) + 24 := if_neg c247_
      exact (la_assigned_87 h70_ h245_ e250_ e251_)
  refine ⟨la_assigned_78, ?_⟩
  refine ⟨la_assigned_79, ?_⟩
  refine ⟨?_, ?_⟩
  · skip
    intro h252_
    have e253_ : (if 0 < S 1021 0 then 12 else 30 * (20 - S 1023 0) + 25 : Int) = 12 := if_pos (la_assigned_88 h245_ h252_)
    have e254_ : (if 0 < S 1021 0 then 11 else 30 * (20 - S 1023 0) + 24 : Int) = 11 := if_pos (la_assigned_88 h245_ h252_)
    refine ⟨(la_assigned_89 h245_ h252_), ?_⟩
    refine ⟨?_, ?_⟩
    · skip
      exact (la_assigned_90 h245_ h252_)
    refine ⟨?_, ?_⟩
    · skip
      exact ((la_assigned_92 h245_ h252_)).elim
    intro h255_
    exact (la_assigned_93 h245_ h252_)
  intro h256_
  have e257_ : (if 0 < S 1021 0 then 12 else 30 * (20 - S 1023 0) + 25 : Int) = 12 := if_pos h256_
  have e258_ : (if 0 < S 1021 0 then 11 else 30 * (20 - S 1023 0) + 24 : Int) = 11 := if_pos h256_
  refine ⟨(la_assigned_94 h49_ h74_ h256_), ?_⟩
  exact (la_assigned_95 h68_ h74_ h256_)
set_option maxRecDepth 8000 in
set_option maxHeartbeats 2000000 in
theorem s_assigned (d : Int) (h0 : 0 ≤ d) (IH : ∀ d' : Int, 0 ≤ d' → d' < d → P_P d') : T_assigned d := by
  intro p1 S hok hp1 hpre hd
  have h := f_assigned d p1 S hok hp1 hpre hd
  have hM := sm_h47
  show sv_T sm_XS sm_cs sm_L sm_sh ((if 0 < (S 1021 0) then 12 else 30 * (20 - (S 1023 0)) + 25)).toNat (q_assigned p1 S) 47 0 [(0, .ref 0), (1, sv_I p1)] [] S
  refine sv_aload_n hM dX12_assigned_0 rfl rfl ?_
  refine sv_iload_n hM dX12_assigned_1 rfl rfl ?_
  obtain ⟨o1, h⟩ := h
  obtain ⟨o2, h⟩ := h
  obtain ⟨o3, h⟩ := h
  obtain ⟨o4, h⟩ := h
  refine sv_callV hM dX12_assigned_2 sm_iv_457 (by decide) (sm_a0 _) rfl rfl (Nat.le_of_ble_eq_true rfl) sm_h48 (Nat.le_of_ble_eq_true rfl) (Nat.le_of_ble_eq_true rfl) (F' := (((if 0 < (S 1021 0) then 11 else 30 * (20 - (S 1023 0)) + 24))).toNat) (sv_Fe o4) rfl ((IH ((if 0 < (S 1021 0) then 11 else 30 * (20 - (S 1023 0)) + 24)) o3.1 o3.2).2.2.2.1 p1 S hok o1 o2 rfl) (fun v S1 hq => ?_)
  obtain ⟨r9, rfl, hr9, ok6, md7, hp8⟩ := hq
  obtain ⟨g5, rfl⟩ : ∃ g, S1 = sv_sts S [1020, 1021, 1022, 1023, 5, 1011, 3, 4, 1007, 1009, 11, 12, 13, 14, 1024, 15, 16, 1031, 1032, 17, 18, 19, 20, 21, 22, 23, 24, 25, 1042, 1043, 1044, 1045, 1100001, 1100002, 1100005, 1100003, 1100004] g := ⟨_, md7.eq⟩
  show sv_T sm_XS sm_cs sm_L sm_sh ((if 0 < (S 1021 0) then 12 else 30 * (20 - (S 1023 0)) + 25)).toNat (q_assigned p1 S) 47 5 [(0, .ref 0), (1, sv_I p1)] [sv_I r9] (sv_sts S [1020, 1021, 1022, 1023, 5, 1011, 3, 4, 1007, 1009, 11, 12, 13, 14, 1024, 15, 16, 1031, 1032, 17, 18, 19, 20, 21, 22, 23, 24, 25, 1042, 1043, 1044, 1045, 1100001, 1100002, 1100005, 1100003, 1100004] g5)
  have md10 : sv_mod [1020, 1021, 1022, 1023, 5, 1011, 3, 4, 1007, 1009, 11, 12, 13, 14, 1024, 15, 16, 1031, 1032, 17, 18, 19, 20, 21, 22, 23, 24, 25, 1042, 1043, 1044, 1045, 1100001, 1100002, 1100005, 1100003, 1100004] S (sv_sts S [1020, 1021, 1022, 1023, 5, 1011, 3, 4, 1007, 1009, 11, 12, 13, 14, 1024, 15, 16, 1031, 1032, 17, 18, 19, 20, 21, 22, 23, 24, 25, 1042, 1043, 1044, 1045, 1100001, 1100002, 1100005, 1100003, 1100004] g5) := sv_mod.sts sv_mod.rf (by decide)
  have h := h r9 hr9 g5 hp8
  refine sv_istore_n hM dX12_assigned_5 (by decide) rfl ?_
  show sv_T sm_XS sm_cs sm_L sm_sh ((if 0 < (S 1021 0) then 12 else 30 * (20 - (S 1023 0)) + 25)).toNat (q_assigned p1 S) 47 6 [(0, .ref 0), (1, sv_I p1), (2, sv_I r9)] [] (sv_sts S [1020, 1021, 1022, 1023, 5, 1011, 3, 4, 1007, 1009, 11, 12, 13, 14, 1024, 15, 16, 1031, 1032, 17, 18, 19, 20, 21, 22, 23, 24, 25, 1042, 1043, 1044, 1045, 1100001, 1100002, 1100005, 1100003, 1100004] g5)
  refine sv_aload_n hM dX12_assigned_6 rfl rfl ?_
  have k11 : sv_R (g5 1021 0) := sm_okI ok6 sm_r1021 0
  have h := h k11
  refine sv_getI hM dX12_assigned_7 sm_fl_389 (sm_a0 _) sm_k21 rfl (x := (g5 1021 0)) rfl ?_
  refine sv_cond_le hM dX12_assigned_10 k11 (t := 15) rfl rfl (fun hc => ?_) (fun hc => ?_)
  · have h := h.1 (hc)
    refine sv_aload_n hM dX12_assigned_15 rfl rfl ?_
    obtain ⟨o12, h⟩ := h
    obtain ⟨o13, h⟩ := h
    refine sv_callV hM dX12_assigned_16 sm_iv_460 (by decide) (sm_a0 _) rfl rfl (Nat.le_of_ble_eq_true rfl) sm_h45 (Nat.le_of_ble_eq_true rfl) (Nat.le_of_ble_eq_true rfl) (F' := 0) (sv_Fn (n := 0) o13) rfl (t_settingOf  (sv_sts S [1020, 1021, 1022, 1023, 5, 1011, 3, 4, 1007, 1009, 11, 12, 13, 14, 1024, 15, 16, 1031, 1032, 17, 18, 19, 20, 21, 22, 23, 24, 25, 1042, 1043, 1044, 1045, 1100001, 1100002, 1100005, 1100003, 1100004] g5) ok6 o12) (fun v S1 hq => ?_)
    obtain ⟨r18, rfl, hr18, ok15, md16, hp17⟩ := hq
    obtain rfl : (sv_sts S [1020, 1021, 1022, 1023, 5, 1011, 3, 4, 1007, 1009, 11, 12, 13, 14, 1024, 15, 16, 1031, 1032, 17, 18, 19, 20, 21, 22, 23, 24, 25, 1042, 1043, 1044, 1045, 1100001, 1100002, 1100005, 1100003, 1100004] g5) = S1 := (funext fun j => md16 j (by intro q; cases q)).symm
    show sv_T sm_XS sm_cs sm_L sm_sh ((if 0 < (S 1021 0) then 12 else 30 * (20 - (S 1023 0)) + 25)).toNat (q_assigned p1 S) 47 19 [(0, .ref 0), (1, sv_I p1), (2, sv_I r9)] [sv_I r18] (sv_sts S [1020, 1021, 1022, 1023, 5, 1011, 3, 4, 1007, 1009, 11, 12, 13, 14, 1024, 15, 16, 1031, 1032, 17, 18, 19, 20, 21, 22, 23, 24, 25, 1042, 1043, 1044, 1045, 1100001, 1100002, 1100005, 1100003, 1100004] g5)
    have h := h r18 hr18 hp17
    refine sv_istore_n hM dX12_assigned_19 (by decide) rfl ?_
    show sv_T sm_XS sm_cs sm_L sm_sh ((if 0 < (S 1021 0) then 12 else 30 * (20 - (S 1023 0)) + 25)).toNat (q_assigned p1 S) 47 20 [(0, .ref 0), (1, sv_I p1), (2, sv_I r9), (3, sv_I r18)] [] (sv_sts S [1020, 1021, 1022, 1023, 5, 1011, 3, 4, 1007, 1009, 11, 12, 13, 14, 1024, 15, 16, 1031, 1032, 17, 18, 19, 20, 21, 22, 23, 24, 25, 1042, 1043, 1044, 1045, 1100001, 1100002, 1100005, 1100003, 1100004] g5)
    refine sv_iload_n hM dX12_assigned_20 rfl rfl ?_
    refine sv_iconst (d := (-1 : Int)) hM dX12_assigned_21 rfl rfl ?_
    refine sv_icmp_ne hM dX12_assigned_22 hr18 (⟨by decide, by decide⟩ : sv_R (-1 : Int)) (t := 27) rfl rfl (fun hc => ?_) (fun hc => ?_)
    · have h := h.1 (hc)
      refine sv_aload_n hM dX12_assigned_27 rfl rfl ?_
      refine sv_iload_n hM dX12_assigned_28 rfl rfl ?_
      obtain ⟨o19, h⟩ := h
      refine sv_callV hM dX12_assigned_29 sm_iv_463 (by decide) (sm_a0 _) rfl rfl (Nat.le_of_ble_eq_true rfl) sm_h44 (Nat.le_of_ble_eq_true rfl) (Nat.le_of_ble_eq_true rfl) (F' := 0) (sv_Fn (n := 0) o13) rfl (t_isTarget r9 (sv_sts S [1020, 1021, 1022, 1023, 5, 1011, 3, 4, 1007, 1009, 11, 12, 13, 14, 1024, 15, 16, 1031, 1032, 17, 18, 19, 20, 21, 22, 23, 24, 25, 1042, 1043, 1044, 1045, 1100001, 1100002, 1100005, 1100003, 1100004] g5) ok15 hr9 o19) (fun v S1 hq => ?_)
      obtain ⟨r24, rfl, hr24, ok21, md22, hp23⟩ := hq
      obtain rfl : (sv_sts S [1020, 1021, 1022, 1023, 5, 1011, 3, 4, 1007, 1009, 11, 12, 13, 14, 1024, 15, 16, 1031, 1032, 17, 18, 19, 20, 21, 22, 23, 24, 25, 1042, 1043, 1044, 1045, 1100001, 1100002, 1100005, 1100003, 1100004] g5) = S1 := (funext fun j => md22 j (by intro q; cases q)).symm
      show sv_T sm_XS sm_cs sm_L sm_sh ((if 0 < (S 1021 0) then 12 else 30 * (20 - (S 1023 0)) + 25)).toNat (q_assigned p1 S) 47 32 [(0, .ref 0), (1, sv_I p1), (2, sv_I r9), (3, sv_I r18)] [sv_I r24] (sv_sts S [1020, 1021, 1022, 1023, 5, 1011, 3, 4, 1007, 1009, 11, 12, 13, 14, 1024, 15, 16, 1031, 1032, 17, 18, 19, 20, 21, 22, 23, 24, 25, 1042, 1043, 1044, 1045, 1100001, 1100002, 1100005, 1100003, 1100004] g5)
      have h := h r24 hr24 hp23
      refine sv_cond_ne hM dX12_assigned_32 hr24 (t := 43) rfl rfl (fun hc => ?_) (fun hc => ?_)
      · have h := h.1 (hc)
        refine sv_aload_n hM dX12_assigned_43 rfl rfl ?_
        refine sv_dupA hM dX12_assigned_44 rfl ?_
        have k25 : sv_R (g5 1020 0) := sm_okI ok21 sm_r1020 0
        have h := h k25
        refine sv_getI hM dX12_assigned_45 sm_fl_392 (sm_a0 _) sm_k20 rfl (x := (g5 1020 0)) rfl ?_
        refine sv_iconst (d := (1 : Int)) hM dX12_assigned_48 rfl rfl ?_
        refine sv_iadd hM dX12_assigned_49 rfl ?_
        obtain ⟨o26, h⟩ := h
        refine sv_putI sm_X hM dX12_assigned_50 sm_fp_392 (sm_a0 _) sm_q20 (Or.inl rfl) rfl rfl rfl rfl ?_
        have ok27 : sm_ok (sv_up (sv_sts S [1020, 1021, 1022, 1023, 5, 1011, 3, 4, 1007, 1009, 11, 12, 13, 14, 1024, 15, 16, 1031, 1032, 17, 18, 19, 20, 21, 22, 23, 24, 25, 1042, 1043, 1044, 1045, 1100001, 1100002, 1100005, 1100003, 1100004] g5) 1020 0 ((g5 1020 0) + (1 : Int))) := sm_upI ok21 sm_r1020 o26
        have md28 : sv_mod [1020, 1021, 1022, 1023, 5, 1011, 3, 4, 1007, 1009, 11, 12, 13, 14, 1024, 15, 16, 1031, 1032, 17, 18, 19, 20, 21, 22, 23, 24, 25, 1042, 1043, 1044, 1045, 1100001, 1100002, 1100005, 1100003, 1100004] S (sv_up (sv_sts S [1020, 1021, 1022, 1023, 5, 1011, 3, 4, 1007, 1009, 11, 12, 13, 14, 1024, 15, 16, 1031, 1032, 17, 18, 19, 20, 21, 22, 23, 24, 25, 1042, 1043, 1044, 1045, 1100001, 1100002, 1100005, 1100003, 1100004] g5) 1020 0 ((g5 1020 0) + (1 : Int))) := sv_mod.up md10 (by decide)
        refine sv_aload_n hM dX12_assigned_53 rfl rfl ?_
        refine sv_bipush (d := (15 : Int)) hM dX12_assigned_54 rfl rfl ?_
        refine sv_iload_n hM dX12_assigned_56 rfl rfl ?_
        refine sv_bipush (d := (99 : Int)) hM dX12_assigned_57 rfl rfl ?_
        refine sv_icmp_ne hM dX12_assigned_59 hr18 (⟨by decide, by decide⟩ : sv_R (99 : Int)) (t := 66) rfl rfl (fun hc => ?_) (fun hc => ?_)
        · have h := h.1 (hc)
          refine sv_iload_n hM dX12_assigned_66 rfl rfl ?_
          refine sv_iload_n hM dX12_assigned_67 rfl rfl ?_
          refine sv_aload_n hM dX12_assigned_68 rfl rfl ?_
          refine sv_iload_n hM dX12_assigned_69 rfl rfl ?_
          obtain ⟨o29, h⟩ := h
          obtain ⟨o30, h⟩ := h
          obtain ⟨o31, h⟩ := h
          refine sv_callV hM dX12_assigned_70 sm_iv_466 (by decide) (sm_a0 _) rfl rfl (Nat.le_of_ble_eq_true rfl) sm_h46 (Nat.le_of_ble_eq_true rfl) (Nat.le_of_ble_eq_true rfl) (F' := ((30 * (20 - (g5 1023 0)) + 14)).toNat) (sv_Fe o31) rfl ((IH (30 * (20 - (g5 1023 0)) + 14) o30.1 o30.2).2.1 p1 (sv_up (sv_sts S [1020, 1021, 1022, 1023, 5, 1011, 3, 4, 1007, 1009, 11, 12, 13, 14, 1024, 15, 16, 1031, 1032, 17, 18, 19, 20, 21, 22, 23, 24, 25, 1042, 1043, 1044, 1045, 1100001, 1100002, 1100005, 1100003, 1100004] g5) 1020 0 ((g5 1020 0) + (1 : Int))) ok27 o1 o29 rfl) (fun v S1 hq => ?_)
          obtain ⟨r36, rfl, hr36, ok33, md34, hp35⟩ := hq
          obtain ⟨g32, rfl⟩ : ∃ g, S1 = sv_sts (sv_up (sv_sts S [1020, 1021, 1022, 1023, 5, 1011, 3, 4, 1007, 1009, 11, 12, 13, 14, 1024, 15, 16, 1031, 1032, 17, 18, 19, 20, 21, 22, 23, 24, 25, 1042, 1043, 1044, 1045, 1100001, 1100002, 1100005, 1100003, 1100004] g5) 1020 0 ((g5 1020 0) + (1 : Int))) [1020, 1021, 1022, 1023, 5, 1011, 3, 4, 1007, 1009, 11, 12, 13, 14, 1024, 15, 16, 1031, 1032, 17, 18, 19, 20, 21, 22, 23, 24, 25, 1042, 1043, 1044, 1045, 1100001, 1100002, 1100005, 1100003, 1100004] g := ⟨_, md34.eq⟩
          show sv_T sm_XS sm_cs sm_L sm_sh ((if 0 < (S 1021 0) then 12 else 30 * (20 - (S 1023 0)) + 25)).toNat (q_assigned p1 S) 47 73 [(0, .ref 0), (1, sv_I p1), (2, sv_I r9), (3, sv_I r18)] [sv_I r36, sv_I r9, sv_I r18, sv_I (15 : Int), .ref 0] (sv_sts (sv_up (sv_sts S [1020, 1021, 1022, 1023, 5, 1011, 3, 4, 1007, 1009, 11, 12, 13, 14, 1024, 15, 16, 1031, 1032, 17, 18, 19, 20, 21, 22, 23, 24, 25, 1042, 1043, 1044, 1045, 1100001, 1100002, 1100005, 1100003, 1100004] g5) 1020 0 ((g5 1020 0) + (1 : Int))) [1020, 1021, 1022, 1023, 5, 1011, 3, 4, 1007, 1009, 11, 12, 13, 14, 1024, 15, 16, 1031, 1032, 17, 18, 19, 20, 21, 22, 23, 24, 25, 1042, 1043, 1044, 1045, 1100001, 1100002, 1100005, 1100003, 1100004] g32)
          have md37 : sv_mod [1020, 1021, 1022, 1023, 5, 1011, 3, 4, 1007, 1009, 11, 12, 13, 14, 1024, 15, 16, 1031, 1032, 17, 18, 19, 20, 21, 22, 23, 24, 25, 1042, 1043, 1044, 1045, 1100001, 1100002, 1100005, 1100003, 1100004] S (sv_sts (sv_up (sv_sts S [1020, 1021, 1022, 1023, 5, 1011, 3, 4, 1007, 1009, 11, 12, 13, 14, 1024, 15, 16, 1031, 1032, 17, 18, 19, 20, 21, 22, 23, 24, 25, 1042, 1043, 1044, 1045, 1100001, 1100002, 1100005, 1100003, 1100004] g5) 1020 0 ((g5 1020 0) + (1 : Int))) [1020, 1021, 1022, 1023, 5, 1011, 3, 4, 1007, 1009, 11, 12, 13, 14, 1024, 15, 16, 1031, 1032, 17, 18, 19, 20, 21, 22, 23, 24, 25, 1042, 1043, 1044, 1045, 1100001, 1100002, 1100005, 1100003, 1100004] g32) := sv_mod.sts md28 (by decide)
          have h := h r36 hr36 g32 hp35
          obtain ⟨o38, h⟩ := h
          refine sv_callV hM dX12_assigned_73 sm_iv_446 (by decide) (sm_a0 _) rfl rfl (Nat.le_of_ble_eq_true rfl) sm_h33 (Nat.le_of_ble_eq_true rfl) (Nat.le_of_ble_eq_true rfl) (F' := 0) (sv_Fn (n := 0) o13) rfl (t_node (15 : Int) r18 r9 r36 (sv_sts (sv_up (sv_sts S [1020, 1021, 1022, 1023, 5, 1011, 3, 4, 1007, 1009, 11, 12, 13, 14, 1024, 15, 16, 1031, 1032, 17, 18, 19, 20, 21, 22, 23, 24, 25, 1042, 1043, 1044, 1045, 1100001, 1100002, 1100005, 1100003, 1100004] g5) 1020 0 ((g5 1020 0) + (1 : Int))) [1020, 1021, 1022, 1023, 5, 1011, 3, 4, 1007, 1009, 11, 12, 13, 14, 1024, 15, 16, 1031, 1032, 17, 18, 19, 20, 21, 22, 23, 24, 25, 1042, 1043, 1044, 1045, 1100001, 1100002, 1100005, 1100003, 1100004] g32) ok33 (⟨by decide, by decide⟩ : sv_R (15 : Int)) hr18 hr9 hr36 o38) (fun v S1 hq => ?_)
          obtain ⟨r43, rfl, hr43, ok40, md41, hp42⟩ := hq
          obtain ⟨g39, rfl⟩ : ∃ g, S1 = sv_sts (sv_sts (sv_up (sv_sts S [1020, 1021, 1022, 1023, 5, 1011, 3, 4, 1007, 1009, 11, 12, 13, 14, 1024, 15, 16, 1031, 1032, 17, 18, 19, 20, 21, 22, 23, 24, 25, 1042, 1043, 1044, 1045, 1100001, 1100002, 1100005, 1100003, 1100004] g5) 1020 0 ((g5 1020 0) + (1 : Int))) [1020, 1021, 1022, 1023, 5, 1011, 3, 4, 1007, 1009, 11, 12, 13, 14, 1024, 15, 16, 1031, 1032, 17, 18, 19, 20, 21, 22, 23, 24, 25, 1042, 1043, 1044, 1045, 1100001, 1100002, 1100005, 1100003, 1100004] g32) [1024, 11, 12, 13, 14] g := ⟨_, md41.eq⟩
          show sv_T sm_XS sm_cs sm_L sm_sh ((if 0 < (S 1021 0) then 12 else 30 * (20 - (S 1023 0)) + 25)).toNat (q_assigned p1 S) 47 76 [(0, .ref 0), (1, sv_I p1), (2, sv_I r9), (3, sv_I r18)] [sv_I r43] (sv_sts (sv_sts (sv_up (sv_sts S [1020, 1021, 1022, 1023, 5, 1011, 3, 4, 1007, 1009, 11, 12, 13, 14, 1024, 15, 16, 1031, 1032, 17, 18, 19, 20, 21, 22, 23, 24, 25, 1042, 1043, 1044, 1045, 1100001, 1100002, 1100005, 1100003, 1100004] g5) 1020 0 ((g5 1020 0) + (1 : Int))) [1020, 1021, 1022, 1023, 5, 1011, 3, 4, 1007, 1009, 11, 12, 13, 14, 1024, 15, 16, 1031, 1032, 17, 18, 19, 20, 21, 22, 23, 24, 25, 1042, 1043, 1044, 1045, 1100001, 1100002, 1100005, 1100003, 1100004] g32) [1024, 11, 12, 13, 14] g39)
          have md44 : sv_mod [1020, 1021, 1022, 1023, 5, 1011, 3, 4, 1007, 1009, 11, 12, 13, 14, 1024, 15, 16, 1031, 1032, 17, 18, 19, 20, 21, 22, 23, 24, 25, 1042, 1043, 1044, 1045, 1100001, 1100002, 1100005, 1100003, 1100004] S (sv_sts (sv_sts (sv_up (sv_sts S [1020, 1021, 1022, 1023, 5, 1011, 3, 4, 1007, 1009, 11, 12, 13, 14, 1024, 15, 16, 1031, 1032, 17, 18, 19, 20, 21, 22, 23, 24, 25, 1042, 1043, 1044, 1045, 1100001, 1100002, 1100005, 1100003, 1100004] g5) 1020 0 ((g5 1020 0) + (1 : Int))) [1020, 1021, 1022, 1023, 5, 1011, 3, 4, 1007, 1009, 11, 12, 13, 14, 1024, 15, 16, 1031, 1032, 17, 18, 19, 20, 21, 22, 23, 24, 25, 1042, 1043, 1044, 1045, 1100001, 1100002, 1100005, 1100003, 1100004] g32) [1024, 11, 12, 13, 14] g39) := sv_mod.sts md37 (by decide)
          have h := h r43 hr43 g39 hp42
          obtain ⟨o45, h⟩ := h
          refine sv_ghost sm_X 1100001 r43 ((if (g32 1021 0) = 0 then 1 else 0)) (by decide) ?_
          have ok46 : sm_ok (sv_up (sv_sts (sv_sts (sv_up (sv_sts S [1020, 1021, 1022, 1023, 5, 1011, 3, 4, 1007, 1009, 11, 12, 13, 14, 1024, 15, 16, 1031, 1032, 17, 18, 19, 20, 21, 22, 23, 24, 25, 1042, 1043, 1044, 1045, 1100001, 1100002, 1100005, 1100003, 1100004] g5) 1020 0 ((g5 1020 0) + (1 : Int))) [1020, 1021, 1022, 1023, 5, 1011, 3, 4, 1007, 1009, 11, 12, 13, 14, 1024, 15, 16, 1031, 1032, 17, 18, 19, 20, 21, 22, 23, 24, 25, 1042, 1043, 1044, 1045, 1100001, 1100002, 1100005, 1100003, 1100004] g32) [1024, 11, 12, 13, 14] g39) 1100001 r43 ((if (g32 1021 0) = 0 then 1 else 0))) := sm_upI ok40 sm_r1100001 o45
          have md47 : sv_mod [1020, 1021, 1022, 1023, 5, 1011, 3, 4, 1007, 1009, 11, 12, 13, 14, 1024, 15, 16, 1031, 1032, 17, 18, 19, 20, 21, 22, 23, 24, 25, 1042, 1043, 1044, 1045, 1100001, 1100002, 1100005, 1100003, 1100004] S (sv_up (sv_sts (sv_sts (sv_up (sv_sts S [1020, 1021, 1022, 1023, 5, 1011, 3, 4, 1007, 1009, 11, 12, 13, 14, 1024, 15, 16, 1031, 1032, 17, 18, 19, 20, 21, 22, 23, 24, 25, 1042, 1043, 1044, 1045, 1100001, 1100002, 1100005, 1100003, 1100004] g5) 1020 0 ((g5 1020 0) + (1 : Int))) [1020, 1021, 1022, 1023, 5, 1011, 3, 4, 1007, 1009, 11, 12, 13, 14, 1024, 15, 16, 1031, 1032, 17, 18, 19, 20, 21, 22, 23, 24, 25, 1042, 1043, 1044, 1045, 1100001, 1100002, 1100005, 1100003, 1100004] g32) [1024, 11, 12, 13, 14] g39) 1100001 r43 ((if (g32 1021 0) = 0 then 1 else 0))) := sv_mod.up md44 (by decide)
          obtain ⟨o48, h⟩ := h
          refine sv_ghost sm_X 1100002 r43 ((17 * (20 - (S 1023 0)) + 17)) (by decide) ?_
          have ok49 : sm_ok (sv_up (sv_up (sv_sts (sv_sts (sv_up (sv_sts S [1020, 1021, 1022, 1023, 5, 1011, 3, 4, 1007, 1009, 11, 12, 13, 14, 1024, 15, 16, 1031, 1032, 17, 18, 19, 20, 21, 22, 23, 24, 25, 1042, 1043, 1044, 1045, 1100001, 1100002, 1100005, 1100003, 1100004] g5) 1020 0 ((g5 1020 0) + (1 : Int))) [1020, 1021, 1022, 1023, 5, 1011, 3, 4, 1007, 1009, 11, 12, 13, 14, 1024, 15, 16, 1031, 1032, 17, 18, 19, 20, 21, 22, 23, 24, 25, 1042, 1043, 1044, 1045, 1100001, 1100002, 1100005, 1100003, 1100004] g32) [1024, 11, 12, 13, 14] g39) 1100001 r43 ((if (g32 1021 0) = 0 then 1 else 0))) 1100002 r43 ((17 * (20 - (S 1023 0)) + 17))) := sm_upI ok46 sm_r1100002 o48
          have md50 : sv_mod [1020, 1021, 1022, 1023, 5, 1011, 3, 4, 1007, 1009, 11, 12, 13, 14, 1024, 15, 16, 1031, 1032, 17, 18, 19, 20, 21, 22, 23, 24, 25, 1042, 1043, 1044, 1045, 1100001, 1100002, 1100005, 1100003, 1100004] S (sv_up (sv_up (sv_sts (sv_sts (sv_up (sv_sts S [1020, 1021, 1022, 1023, 5, 1011, 3, 4, 1007, 1009, 11, 12, 13, 14, 1024, 15, 16, 1031, 1032, 17, 18, 19, 20, 21, 22, 23, 24, 25, 1042, 1043, 1044, 1045, 1100001, 1100002, 1100005, 1100003, 1100004] g5) 1020 0 ((g5 1020 0) + (1 : Int))) [1020, 1021, 1022, 1023, 5, 1011, 3, 4, 1007, 1009, 11, 12, 13, 14, 1024, 15, 16, 1031, 1032, 17, 18, 19, 20, 21, 22, 23, 24, 25, 1042, 1043, 1044, 1045, 1100001, 1100002, 1100005, 1100003, 1100004] g32) [1024, 11, 12, 13, 14] g39) 1100001 r43 ((if (g32 1021 0) = 0 then 1 else 0))) 1100002 r43 ((17 * (20 - (S 1023 0)) + 17))) := sv_mod.up md47 (by decide)
          obtain ⟨o51, h⟩ := h
          refine sv_ghost sm_X 1100005 r43 ((20 - (S 1023 0))) (by decide) ?_
          have ok52 : sm_ok (sv_up (sv_up (sv_up (sv_sts (sv_sts (sv_up (sv_sts S [1020, 1021, 1022, 1023, 5, 1011, 3, 4, 1007, 1009, 11, 12, 13, 14, 1024, 15, 16, 1031, 1032, 17, 18, 19, 20, 21, 22, 23, 24, 25, 1042, 1043, 1044, 1045, 1100001, 1100002, 1100005, 1100003, 1100004] g5) 1020 0 ((g5 1020 0) + (1 : Int))) [1020, 1021, 1022, 1023, 5, 1011, 3, 4, 1007, 1009, 11, 12, 13, 14, 1024, 15, 16, 1031, 1032, 17, 18, 19, 20, 21, 22, 23, 24, 25, 1042, 1043, 1044, 1045, 1100001, 1100002, 1100005, 1100003, 1100004] g32) [1024, 11, 12, 13, 14] g39) 1100001 r43 ((if (g32 1021 0) = 0 then 1 else 0))) 1100002 r43 ((17 * (20 - (S 1023 0)) + 17))) 1100005 r43 ((20 - (S 1023 0)))) := sm_upI ok49 sm_r1100005 o51
          have md53 : sv_mod [1020, 1021, 1022, 1023, 5, 1011, 3, 4, 1007, 1009, 11, 12, 13, 14, 1024, 15, 16, 1031, 1032, 17, 18, 19, 20, 21, 22, 23, 24, 25, 1042, 1043, 1044, 1045, 1100001, 1100002, 1100005, 1100003, 1100004] S (sv_up (sv_up (sv_up (sv_sts (sv_sts (sv_up (sv_sts S [1020, 1021, 1022, 1023, 5, 1011, 3, 4, 1007, 1009, 11, 12, 13, 14, 1024, 15, 16, 1031, 1032, 17, 18, 19, 20, 21, 22, 23, 24, 25, 1042, 1043, 1044, 1045, 1100001, 1100002, 1100005, 1100003, 1100004] g5) 1020 0 ((g5 1020 0) + (1 : Int))) [1020, 1021, 1022, 1023, 5, 1011, 3, 4, 1007, 1009, 11, 12, 13, 14, 1024, 15, 16, 1031, 1032, 17, 18, 19, 20, 21, 22, 23, 24, 25, 1042, 1043, 1044, 1045, 1100001, 1100002, 1100005, 1100003, 1100004] g32) [1024, 11, 12, 13, 14] g39) 1100001 r43 ((if (g32 1021 0) = 0 then 1 else 0))) 1100002 r43 ((17 * (20 - (S 1023 0)) + 17))) 1100005 r43 ((20 - (S 1023 0)))) := sv_mod.up md50 (by decide)
          refine sv_ghost sm_X 1100003 r43 (0 : Int) (by decide) ?_
          have ok54 : sm_ok (sv_up (sv_up (sv_up (sv_up (sv_sts (sv_sts (sv_up (sv_sts S [1020, 1021, 1022, 1023, 5, 1011, 3, 4, 1007, 1009, 11, 12, 13, 14, 1024, 15, 16, 1031, 1032, 17, 18, 19, 20, 21, 22, 23, 24, 25, 1042, 1043, 1044, 1045, 1100001, 1100002, 1100005, 1100003, 1100004] g5) 1020 0 ((g5 1020 0) + (1 : Int))) [1020, 1021, 1022, 1023, 5, 1011, 3, 4, 1007, 1009, 11, 12, 13, 14, 1024, 15, 16, 1031, 1032, 17, 18, 19, 20, 21, 22, 23, 24, 25, 1042, 1043, 1044, 1045, 1100001, 1100002, 1100005, 1100003, 1100004] g32) [1024, 11, 12, 13, 14] g39) 1100001 r43 ((if (g32 1021 0) = 0 then 1 else 0))) 1100002 r43 ((17 * (20 - (S 1023 0)) + 17))) 1100005 r43 ((20 - (S 1023 0)))) 1100003 r43 (0 : Int)) := sm_upI ok52 sm_r1100003 (⟨by decide, by decide⟩ : sv_R (0 : Int))
          have md55 : sv_mod [1020, 1021, 1022, 1023, 5, 1011, 3, 4, 1007, 1009, 11, 12, 13, 14, 1024, 15, 16, 1031, 1032, 17, 18, 19, 20, 21, 22, 23, 24, 25, 1042, 1043, 1044, 1045, 1100001, 1100002, 1100005, 1100003, 1100004] S (sv_up (sv_up (sv_up (sv_up (sv_sts (sv_sts (sv_up (sv_sts S [1020, 1021, 1022, 1023, 5, 1011, 3, 4, 1007, 1009, 11, 12, 13, 14, 1024, 15, 16, 1031, 1032, 17, 18, 19, 20, 21, 22, 23, 24, 25, 1042, 1043, 1044, 1045, 1100001, 1100002, 1100005, 1100003, 1100004] g5) 1020 0 ((g5 1020 0) + (1 : Int))) [1020, 1021, 1022, 1023, 5, 1011, 3, 4, 1007, 1009, 11, 12, 13, 14, 1024, 15, 16, 1031, 1032, 17, 18, 19, 20, 21, 22, 23, 24, 25, 1042, 1043, 1044, 1045, 1100001, 1100002, 1100005, 1100003, 1100004] g32) [1024, 11, 12, 13, 14] g39) 1100001 r43 ((if (g32 1021 0) = 0 then 1 else 0))) 1100002 r43 ((17 * (20 - (S 1023 0)) + 17))) 1100005 r43 ((20 - (S 1023 0)))) 1100003 r43 (0 : Int)) := sv_mod.up md53 (by decide)
          refine sv_ghost sm_X 1100004 r43 (0 : Int) (by decide) ?_
          have ok56 : sm_ok (sv_up (sv_up (sv_up (sv_up (sv_up (sv_sts (sv_sts (sv_up (sv_sts S [1020, 1021, 1022, 1023, 5, 1011, 3, 4, 1007, 1009, 11, 12, 13, 14, 1024, 15, 16, 1031, 1032, 17, 18, 19, 20, 21, 22, 23, 24, 25, 1042, 1043, 1044, 1045, 1100001, 1100002, 1100005, 1100003, 1100004] g5) 1020 0 ((g5 1020 0) + (1 : Int))) [1020, 1021, 1022, 1023, 5, 1011, 3, 4, 1007, 1009, 11, 12, 13, 14, 1024, 15, 16, 1031, 1032, 17, 18, 19, 20, 21, 22, 23, 24, 25, 1042, 1043, 1044, 1045, 1100001, 1100002, 1100005, 1100003, 1100004] g32) [1024, 11, 12, 13, 14] g39) 1100001 r43 ((if (g32 1021 0) = 0 then 1 else 0))) 1100002 r43 ((17 * (20 - (S 1023 0)) + 17))) 1100005 r43 ((20 - (S 1023 0)))) 1100003 r43 (0 : Int)) 1100004 r43 (0 : Int)) := sm_upI ok54 sm_r1100004 (⟨by decide, by decide⟩ : sv_R (0 : Int))
          have md57 : sv_mod [1020, 1021, 1022, 1023, 5, 1011, 3, 4, 1007, 1009, 11, 12, 13, 14, 1024, 15, 16, 1031, 1032, 17, 18, 19, 20, 21, 22, 23, 24, 25, 1042, 1043, 1044, 1045, 1100001, 1100002, 1100005, 1100003, 1100004] S (sv_up (sv_up (sv_up (sv_up (sv_up (sv_sts (sv_sts (sv_up (sv_sts S [1020, 1021, 1022, 1023, 5, 1011, 3, 4, 1007, 1009, 11, 12, 13, 14, 1024, 15, 16, 1031, 1032, 17, 18, 19, 20, 21, 22, 23, 24, 25, 1042, 1043, 1044, 1045, 1100001, 1100002, 1100005, 1100003, 1100004] g5) 1020 0 ((g5 1020 0) + (1 : Int))) [1020, 1021, 1022, 1023, 5, 1011, 3, 4, 1007, 1009, 11, 12, 13, 14, 1024, 15, 16, 1031, 1032, 17, 18, 19, 20, 21, 22, 23, 24, 25, 1042, 1043, 1044, 1045, 1100001, 1100002, 1100005, 1100003, 1100004] g32) [1024, 11, 12, 13, 14] g39) 1100001 r43 ((if (g32 1021 0) = 0 then 1 else 0))) 1100002 r43 ((17 * (20 - (S 1023 0)) + 17))) 1100005 r43 ((20 - (S 1023 0)))) 1100003 r43 (0 : Int)) 1100004 r43 (0 : Int)) := sv_mod.up md55 (by decide)
          have k58 : (sm_WF (g39 11) (g39 12) (g39 13) (g32 1100001) (g32 1100002) (g32 1100005) (g32 1100003) (g32 1100004) (g39 1024 0) (g32 1007 0) (g32 1009 0) (g32 1032 0) → (g32 1100001 r43) = 0 → 0 ≤ r43 → r43 < (g39 1024 0) → (g39 13 r43) = -1 → ((g32 1021 0) = 0 → (g39 11 r43) = 15 ∧ -1 ≤ (g39 12 (5 * r43)) ∧ (g39 12 (5 * r43)) ≤ 10 ∧ sm_ex (g32 1100001) (g32 1100002) (g32 1100005) (g39 1024 0) 1 (g39 12 (5 * r43 + 1)) (17 * (20 - (S 1023 0)) + 14) (20 - (S 1023 0)) ∧ (g39 12 (5 * r43 + 1)) < r43 ∧ ((g39 11 (g39 12 (5 * r43 + 1))) = 2 ∨ (g39 11 (g39 12 (5 * r43 + 1))) = 7) ∧ sm_ex (g32 1100001) (g32 1100002) (g32 1100005) (g39 1024 0) 1 (g39 12 (5 * r43 + 2)) (17 * (20 - (S 1023 0)) + 14) (19 - (S 1023 0))) → sm_WF (g39 11) (g39 12) (g39 13) (fun i' : Int => if i' = r43 then ((if (g32 1021 0) = 0 then 1 else 0)) else (g32 1100001) i') (fun i' : Int => if i' = r43 then ((17 * (20 - (S 1023 0)) + 17)) else (g32 1100002) i') (fun i' : Int => if i' = r43 then ((20 - (S 1023 0))) else (g32 1100005) i') (fun i' : Int => if i' = r43 then (0 : Int) else (g32 1100003) i') (fun i' : Int => if i' = r43 then (0 : Int) else (g32 1100004) i') (g39 1024 0) (g32 1007 0) (g32 1009 0) (g32 1032 0) ∧ sm_PS (g39 11) (g32 1100001) (g32 1100002) (g32 1100005) (g32 1100003) (g32 1100004) (g39 11) (fun i' : Int => if i' = r43 then ((if (g32 1021 0) = 0 then 1 else 0)) else (g32 1100001) i') (fun i' : Int => if i' = r43 then ((17 * (20 - (S 1023 0)) + 17)) else (g32 1100002) i') (fun i' : Int => if i' = r43 then ((20 - (S 1023 0))) else (g32 1100005) i') (fun i' : Int => if i' = r43 then (0 : Int) else (g32 1100003) i') (fun i' : Int => if i' = r43 then (0 : Int) else (g32 1100004) i') (g39 1024 0)) := fun a1 a2 a3 a4 a5 a6 => sm_mk1 a1 a2 a3 a4 a5 (if hf : (g32 1021 0) = 0 then (by rw [if_pos hf]; obtain ⟨c, c1, c2, c3, c4, c5, c6⟩ := a6 hf; exact Or.inr ⟨rfl, sm_c1_15 c ⟨c1, c2⟩ c3 c4 c5 (by have := c6; simpa using this)⟩) else (by rw [if_neg hf]; exact Or.inl rfl))
          have h := h k58
          exact sv_iret hM dX12_assigned_76 rfl rfl ⟨r43, rfl, hr43, ok56, md57, h⟩
        · have h := h.2 (hc)
          refine sv_iconst (d := (-1 : Int)) hM dX12_assigned_62 rfl rfl ?_
          refine sv_goto hM dX12_assigned_63 (pc' := 67) rfl ?_
          refine sv_iload_n hM dX12_assigned_67 rfl rfl ?_
          refine sv_aload_n hM dX12_assigned_68 rfl rfl ?_
          refine sv_iload_n hM dX12_assigned_69 rfl rfl ?_
          obtain ⟨o59, h⟩ := h
          obtain ⟨o60, h⟩ := h
          obtain ⟨o61, h⟩ := h
          refine sv_callV hM dX12_assigned_70 sm_iv_466 (by decide) (sm_a0 _) rfl rfl (Nat.le_of_ble_eq_true rfl) sm_h46 (Nat.le_of_ble_eq_true rfl) (Nat.le_of_ble_eq_true rfl) (F' := ((30 * (20 - (g5 1023 0)) + 14)).toNat) (sv_Fe o61) rfl ((IH (30 * (20 - (g5 1023 0)) + 14) o60.1 o60.2).2.1 p1 (sv_up (sv_sts S [1020, 1021, 1022, 1023, 5, 1011, 3, 4, 1007, 1009, 11, 12, 13, 14, 1024, 15, 16, 1031, 1032, 17, 18, 19, 20, 21, 22, 23, 24, 25, 1042, 1043, 1044, 1045, 1100001, 1100002, 1100005, 1100003, 1100004] g5) 1020 0 ((g5 1020 0) + (1 : Int))) ok27 o1 o59 rfl) (fun v S1 hq => ?_)
          obtain ⟨r66, rfl, hr66, ok63, md64, hp65⟩ := hq
          obtain ⟨g62, rfl⟩ : ∃ g, S1 = sv_sts (sv_up (sv_sts S [1020, 1021, 1022, 1023, 5, 1011, 3, 4, 1007, 1009, 11, 12, 13, 14, 1024, 15, 16, 1031, 1032, 17, 18, 19, 20, 21, 22, 23, 24, 25, 1042, 1043, 1044, 1045, 1100001, 1100002, 1100005, 1100003, 1100004] g5) 1020 0 ((g5 1020 0) + (1 : Int))) [1020, 1021, 1022, 1023, 5, 1011, 3, 4, 1007, 1009, 11, 12, 13, 14, 1024, 15, 16, 1031, 1032, 17, 18, 19, 20, 21, 22, 23, 24, 25, 1042, 1043, 1044, 1045, 1100001, 1100002, 1100005, 1100003, 1100004] g := ⟨_, md64.eq⟩
          show sv_T sm_XS sm_cs sm_L sm_sh ((if 0 < (S 1021 0) then 12 else 30 * (20 - (S 1023 0)) + 25)).toNat (q_assigned p1 S) 47 73 [(0, .ref 0), (1, sv_I p1), (2, sv_I r9), (3, sv_I r18)] [sv_I r66, sv_I r9, sv_I (-1 : Int), sv_I (15 : Int), .ref 0] (sv_sts (sv_up (sv_sts S [1020, 1021, 1022, 1023, 5, 1011, 3, 4, 1007, 1009, 11, 12, 13, 14, 1024, 15, 16, 1031, 1032, 17, 18, 19, 20, 21, 22, 23, 24, 25, 1042, 1043, 1044, 1045, 1100001, 1100002, 1100005, 1100003, 1100004] g5) 1020 0 ((g5 1020 0) + (1 : Int))) [1020, 1021, 1022, 1023, 5, 1011, 3, 4, 1007, 1009, 11, 12, 13, 14, 1024, 15, 16, 1031, 1032, 17, 18, 19, 20, 21, 22, 23, 24, 25, 1042, 1043, 1044, 1045, 1100001, 1100002, 1100005, 1100003, 1100004] g62)
          have md67 : sv_mod [1020, 1021, 1022, 1023, 5, 1011, 3, 4, 1007, 1009, 11, 12, 13, 14, 1024, 15, 16, 1031, 1032, 17, 18, 19, 20, 21, 22, 23, 24, 25, 1042, 1043, 1044, 1045, 1100001, 1100002, 1100005, 1100003, 1100004] S (sv_sts (sv_up (sv_sts S [1020, 1021, 1022, 1023, 5, 1011, 3, 4, 1007, 1009, 11, 12, 13, 14, 1024, 15, 16, 1031, 1032, 17, 18, 19, 20, 21, 22, 23, 24, 25, 1042, 1043, 1044, 1045, 1100001, 1100002, 1100005, 1100003, 1100004] g5) 1020 0 ((g5 1020 0) + (1 : Int))) [1020, 1021, 1022, 1023, 5, 1011, 3, 4, 1007, 1009, 11, 12, 13, 14, 1024, 15, 16, 1031, 1032, 17, 18, 19, 20, 21, 22, 23, 24, 25, 1042, 1043, 1044, 1045, 1100001, 1100002, 1100005, 1100003, 1100004] g62) := sv_mod.sts md28 (by decide)
          have h := h r66 hr66 g62 hp65
          obtain ⟨o68, h⟩ := h
          refine sv_callV hM dX12_assigned_73 sm_iv_446 (by decide) (sm_a0 _) rfl rfl (Nat.le_of_ble_eq_true rfl) sm_h33 (Nat.le_of_ble_eq_true rfl) (Nat.le_of_ble_eq_true rfl) (F' := 0) (sv_Fn (n := 0) o13) rfl (t_node (15 : Int) (-1 : Int) r9 r66 (sv_sts (sv_up (sv_sts S [1020, 1021, 1022, 1023, 5, 1011, 3, 4, 1007, 1009, 11, 12, 13, 14, 1024, 15, 16, 1031, 1032, 17, 18, 19, 20, 21, 22, 23, 24, 25, 1042, 1043, 1044, 1045, 1100001, 1100002, 1100005, 1100003, 1100004] g5) 1020 0 ((g5 1020 0) + (1 : Int))) [1020, 1021, 1022, 1023, 5, 1011, 3, 4, 1007, 1009, 11, 12, 13, 14, 1024, 15, 16, 1031, 1032, 17, 18, 19, 20, 21, 22, 23, 24, 25, 1042, 1043, 1044, 1045, 1100001, 1100002, 1100005, 1100003, 1100004] g62) ok63 (⟨by decide, by decide⟩ : sv_R (15 : Int)) (⟨by decide, by decide⟩ : sv_R (-1 : Int)) hr9 hr66 o68) (fun v S1 hq => ?_)
          obtain ⟨r73, rfl, hr73, ok70, md71, hp72⟩ := hq
          obtain ⟨g69, rfl⟩ : ∃ g, S1 = sv_sts (sv_sts (sv_up (sv_sts S [1020, 1021, 1022, 1023, 5, 1011, 3, 4, 1007, 1009, 11, 12, 13, 14, 1024, 15, 16, 1031, 1032, 17, 18, 19, 20, 21, 22, 23, 24, 25, 1042, 1043, 1044, 1045, 1100001, 1100002, 1100005, 1100003, 1100004] g5) 1020 0 ((g5 1020 0) + (1 : Int))) [1020, 1021, 1022, 1023, 5, 1011, 3, 4, 1007, 1009, 11, 12, 13, 14, 1024, 15, 16, 1031, 1032, 17, 18, 19, 20, 21, 22, 23, 24, 25, 1042, 1043, 1044, 1045, 1100001, 1100002, 1100005, 1100003, 1100004] g62) [1024, 11, 12, 13, 14] g := ⟨_, md71.eq⟩
          show sv_T sm_XS sm_cs sm_L sm_sh ((if 0 < (S 1021 0) then 12 else 30 * (20 - (S 1023 0)) + 25)).toNat (q_assigned p1 S) 47 76 [(0, .ref 0), (1, sv_I p1), (2, sv_I r9), (3, sv_I r18)] [sv_I r73] (sv_sts (sv_sts (sv_up (sv_sts S [1020, 1021, 1022, 1023, 5, 1011, 3, 4, 1007, 1009, 11, 12, 13, 14, 1024, 15, 16, 1031, 1032, 17, 18, 19, 20, 21, 22, 23, 24, 25, 1042, 1043, 1044, 1045, 1100001, 1100002, 1100005, 1100003, 1100004] g5) 1020 0 ((g5 1020 0) + (1 : Int))) [1020, 1021, 1022, 1023, 5, 1011, 3, 4, 1007, 1009, 11, 12, 13, 14, 1024, 15, 16, 1031, 1032, 17, 18, 19, 20, 21, 22, 23, 24, 25, 1042, 1043, 1044, 1045, 1100001, 1100002, 1100005, 1100003, 1100004] g62) [1024, 11, 12, 13, 14] g69)
          have md74 : sv_mod [1020, 1021, 1022, 1023, 5, 1011, 3, 4, 1007, 1009, 11, 12, 13, 14, 1024, 15, 16, 1031, 1032, 17, 18, 19, 20, 21, 22, 23, 24, 25, 1042, 1043, 1044, 1045, 1100001, 1100002, 1100005, 1100003, 1100004] S (sv_sts (sv_sts (sv_up (sv_sts S [1020, 1021, 1022, 1023, 5, 1011, 3, 4, 1007, 1009, 11, 12, 13, 14, 1024, 15, 16, 1031, 1032, 17, 18, 19, 20, 21, 22, 23, 24, 25, 1042, 1043, 1044, 1045, 1100001, 1100002, 1100005, 1100003, 1100004] g5) 1020 0 ((g5 1020 0) + (1 : Int))) [1020, 1021, 1022, 1023, 5, 1011, 3, 4, 1007, 1009, 11, 12, 13, 14, 1024, 15, 16, 1031, 1032, 17, 18, 19, 20, 21, 22, 23, 24, 25, 1042, 1043, 1044, 1045, 1100001, 1100002, 1100005, 1100003, 1100004] g62) [1024, 11, 12, 13, 14] g69) := sv_mod.sts md67 (by decide)
          have h := h r73 hr73 g69 hp72
          obtain ⟨o75, h⟩ := h
          refine sv_ghost sm_X 1100001 r73 ((if (g62 1021 0) = 0 then 1 else 0)) (by decide) ?_
          have ok76 : sm_ok (sv_up (sv_sts (sv_sts (sv_up (sv_sts S [1020, 1021, 1022, 1023, 5, 1011, 3, 4, 1007, 1009, 11, 12, 13, 14, 1024, 15, 16, 1031, 1032, 17, 18, 19, 20, 21, 22, 23, 24, 25, 1042, 1043, 1044, 1045, 1100001, 1100002, 1100005, 1100003, 1100004] g5) 1020 0 ((g5 1020 0) + (1 : Int))) [1020, 1021, 1022, 1023, 5, 1011, 3, 4, 1007, 1009, 11, 12, 13, 14, 1024, 15, 16, 1031, 1032, 17, 18, 19, 20, 21, 22, 23, 24, 25, 1042, 1043, 1044, 1045, 1100001, 1100002, 1100005, 1100003, 1100004] g62) [1024, 11, 12, 13, 14] g69) 1100001 r73 ((if (g62 1021 0) = 0 then 1 else 0))) := sm_upI ok70 sm_r1100001 o75
          have md77 : sv_mod [1020, 1021, 1022, 1023, 5, 1011, 3, 4, 1007, 1009, 11, 12, 13, 14, 1024, 15, 16, 1031, 1032, 17, 18, 19, 20, 21, 22, 23, 24, 25, 1042, 1043, 1044, 1045, 1100001, 1100002, 1100005, 1100003, 1100004] S (sv_up (sv_sts (sv_sts (sv_up (sv_sts S [1020, 1021, 1022, 1023, 5, 1011, 3, 4, 1007, 1009, 11, 12, 13, 14, 1024, 15, 16, 1031, 1032, 17, 18, 19, 20, 21, 22, 23, 24, 25, 1042, 1043, 1044, 1045, 1100001, 1100002, 1100005, 1100003, 1100004] g5) 1020 0 ((g5 1020 0) + (1 : Int))) [1020, 1021, 1022, 1023, 5, 1011, 3, 4, 1007, 1009, 11, 12, 13, 14, 1024, 15, 16, 1031, 1032, 17, 18, 19, 20, 21, 22, 23, 24, 25, 1042, 1043, 1044, 1045, 1100001, 1100002, 1100005, 1100003, 1100004] g62) [1024, 11, 12, 13, 14] g69) 1100001 r73 ((if (g62 1021 0) = 0 then 1 else 0))) := sv_mod.up md74 (by decide)
          obtain ⟨o78, h⟩ := h
          refine sv_ghost sm_X 1100002 r73 ((17 * (20 - (S 1023 0)) + 17)) (by decide) ?_
          have ok79 : sm_ok (sv_up (sv_up (sv_sts (sv_sts (sv_up (sv_sts S [1020, 1021, 1022, 1023, 5, 1011, 3, 4, 1007, 1009, 11, 12, 13, 14, 1024, 15, 16, 1031, 1032, 17, 18, 19, 20, 21, 22, 23, 24, 25, 1042, 1043, 1044, 1045, 1100001, 1100002, 1100005, 1100003, 1100004] g5) 1020 0 ((g5 1020 0) + (1 : Int))) [1020, 1021, 1022, 1023, 5, 1011, 3, 4, 1007, 1009, 11, 12, 13, 14, 1024, 15, 16, 1031, 1032, 17, 18, 19, 20, 21, 22, 23, 24, 25, 1042, 1043, 1044, 1045, 1100001, 1100002, 1100005, 1100003, 1100004] g62) [1024, 11, 12, 13, 14] g69) 1100001 r73 ((if (g62 1021 0) = 0 then 1 else 0))) 1100002 r73 ((17 * (20 - (S 1023 0)) + 17))) := sm_upI ok76 sm_r1100002 o78
          have md80 : sv_mod [1020, 1021, 1022, 1023, 5, 1011, 3, 4, 1007, 1009, 11, 12, 13, 14, 1024, 15, 16, 1031, 1032, 17, 18, 19, 20, 21, 22, 23, 24, 25, 1042, 1043, 1044, 1045, 1100001, 1100002, 1100005, 1100003, 1100004] S (sv_up (sv_up (sv_sts (sv_sts (sv_up (sv_sts S [1020, 1021, 1022, 1023, 5, 1011, 3, 4, 1007, 1009, 11, 12, 13, 14, 1024, 15, 16, 1031, 1032, 17, 18, 19, 20, 21, 22, 23, 24, 25, 1042, 1043, 1044, 1045, 1100001, 1100002, 1100005, 1100003, 1100004] g5) 1020 0 ((g5 1020 0) + (1 : Int))) [1020, 1021, 1022, 1023, 5, 1011, 3, 4, 1007, 1009, 11, 12, 13, 14, 1024, 15, 16, 1031, 1032, 17, 18, 19, 20, 21, 22, 23, 24, 25, 1042, 1043, 1044, 1045, 1100001, 1100002, 1100005, 1100003, 1100004] g62) [1024, 11, 12, 13, 14] g69) 1100001 r73 ((if (g62 1021 0) = 0 then 1 else 0))) 1100002 r73 ((17 * (20 - (S 1023 0)) + 17))) := sv_mod.up md77 (by decide)
          obtain ⟨o81, h⟩ := h
          refine sv_ghost sm_X 1100005 r73 ((20 - (S 1023 0))) (by decide) ?_
          have ok82 : sm_ok (sv_up (sv_up (sv_up (sv_sts (sv_sts (sv_up (sv_sts S [1020, 1021, 1022, 1023, 5, 1011, 3, 4, 1007, 1009, 11, 12, 13, 14, 1024, 15, 16, 1031, 1032, 17, 18, 19, 20, 21, 22, 23, 24, 25, 1042, 1043, 1044, 1045, 1100001, 1100002, 1100005, 1100003, 1100004] g5) 1020 0 ((g5 1020 0) + (1 : Int))) [1020, 1021, 1022, 1023, 5, 1011, 3, 4, 1007, 1009, 11, 12, 13, 14, 1024, 15, 16, 1031, 1032, 17, 18, 19, 20, 21, 22, 23, 24, 25, 1042, 1043, 1044, 1045, 1100001, 1100002, 1100005, 1100003, 1100004] g62) [1024, 11, 12, 13, 14] g69) 1100001 r73 ((if (g62 1021 0) = 0 then 1 else 0))) 1100002 r73 ((17 * (20 - (S 1023 0)) + 17))) 1100005 r73 ((20 - (S 1023 0)))) := sm_upI ok79 sm_r1100005 o81
          have md83 : sv_mod [1020, 1021, 1022, 1023, 5, 1011, 3, 4, 1007, 1009, 11, 12, 13, 14, 1024, 15, 16, 1031, 1032, 17, 18, 19, 20, 21, 22, 23, 24, 25, 1042, 1043, 1044, 1045, 1100001, 1100002, 1100005, 1100003, 1100004] S (sv_up (sv_up (sv_up (sv_sts (sv_sts (sv_up (sv_sts S [1020, 1021, 1022, 1023, 5, 1011, 3, 4, 1007, 1009, 11, 12, 13, 14, 1024, 15, 16, 1031, 1032, 17, 18, 19, 20, 21, 22, 23, 24, 25, 1042, 1043, 1044, 1045, 1100001, 1100002, 1100005, 1100003, 1100004] g5) 1020 0 ((g5 1020 0) + (1 : Int))) [1020, 1021, 1022, 1023, 5, 1011, 3, 4, 1007, 1009, 11, 12, 13, 14, 1024, 15, 16, 1031, 1032, 17, 18, 19, 20, 21, 22, 23, 24, 25, 1042, 1043, 1044, 1045, 1100001, 1100002, 1100005, 1100003, 1100004] g62) [1024, 11, 12, 13, 14] g69) 1100001 r73 ((if (g62 1021 0) = 0 then 1 else 0))) 1100002 r73 ((17 * (20 - (S 1023 0)) + 17))) 1100005 r73 ((20 - (S 1023 0)))) := sv_mod.up md80 (by decide)
          refine sv_ghost sm_X 1100003 r73 (0 : Int) (by decide) ?_
          have ok84 : sm_ok (sv_up (sv_up (sv_up (sv_up (sv_sts (sv_sts (sv_up (sv_sts S [1020, 1021, 1022, 1023, 5, 1011, 3, 4, 1007, 1009, 11, 12, 13, 14, 1024, 15, 16, 1031, 1032, 17, 18, 19, 20, 21, 22, 23, 24, 25, 1042, 1043, 1044, 1045, 1100001, 1100002, 1100005, 1100003, 1100004] g5) 1020 0 ((g5 1020 0) + (1 : Int))) [1020, 1021, 1022, 1023, 5, 1011, 3, 4, 1007, 1009, 11, 12, 13, 14, 1024, 15, 16, 1031, 1032, 17, 18, 19, 20, 21, 22, 23, 24, 25, 1042, 1043, 1044, 1045, 1100001, 1100002, 1100005, 1100003, 1100004] g62) [1024, 11, 12, 13, 14] g69) 1100001 r73 ((if (g62 1021 0) = 0 then 1 else 0))) 1100002 r73 ((17 * (20 - (S 1023 0)) + 17))) 1100005 r73 ((20 - (S 1023 0)))) 1100003 r73 (0 : Int)) := sm_upI ok82 sm_r1100003 (⟨by decide, by decide⟩ : sv_R (0 : Int))
          have md85 : sv_mod [1020, 1021, 1022, 1023, 5, 1011, 3, 4, 1007, 1009, 11, 12, 13, 14, 1024, 15, 16, 1031, 1032, 17, 18, 19, 20, 21, 22, 23, 24, 25, 1042, 1043, 1044, 1045, 1100001, 1100002, 1100005, 1100003, 1100004] S (sv_up (sv_up (sv_up (sv_up (sv_sts (sv_sts (sv_up (sv_sts S [1020, 1021, 1022, 1023, 5, 1011, 3, 4, 1007, 1009, 11, 12, 13, 14, 1024, 15, 16, 1031, 1032, 17, 18, 19, 20, 21, 22, 23, 24, 25, 1042, 1043, 1044, 1045, 1100001, 1100002, 1100005, 1100003, 1100004] g5) 1020 0 ((g5 1020 0) + (1 : Int))) [1020, 1021, 1022, 1023, 5, 1011, 3, 4, 1007, 1009, 11, 12, 13, 14, 1024, 15, 16, 1031, 1032, 17, 18, 19, 20, 21, 22, 23, 24, 25, 1042, 1043, 1044, 1045, 1100001, 1100002, 1100005, 1100003, 1100004] g62) [1024, 11, 12, 13, 14] g69) 1100001 r73 ((if (g62 1021 0) = 0 then 1 else 0))) 1100002 r73 ((17 * (20 - (S 1023 0)) + 17))) 1100005 r73 ((20 - (S 1023 0)))) 1100003 r73 (0 : Int)) := sv_mod.up md83 (by decide)
          refine sv_ghost sm_X 1100004 r73 (0 : Int) (by decide) ?_
          have ok86 : sm_ok (sv_up (sv_up (sv_up (sv_up (sv_up (sv_sts (sv_sts (sv_up (sv_sts S [1020, 1021, 1022, 1023, 5, 1011, 3, 4, 1007, 1009, 11, 12, 13, 14, 1024, 15, 16, 1031, 1032, 17, 18, 19, 20, 21, 22, 23, 24, 25, 1042, 1043, 1044, 1045, 1100001, 1100002, 1100005, 1100003, 1100004] g5) 1020 0 ((g5 1020 0) + (1 : Int))) [1020, 1021, 1022, 1023, 5, 1011, 3, 4, 1007, 1009, 11, 12, 13, 14, 1024, 15, 16, 1031, 1032, 17, 18, 19, 20, 21, 22, 23, 24, 25, 1042, 1043, 1044, 1045, 1100001, 1100002, 1100005, 1100003, 1100004] g62) [1024, 11, 12, 13, 14] g69) 1100001 r73 ((if (g62 1021 0) = 0 then 1 else 0))) 1100002 r73 ((17 * (20 - (S 1023 0)) + 17))) 1100005 r73 ((20 - (S 1023 0)))) 1100003 r73 (0 : Int)) 1100004 r73 (0 : Int)) := sm_upI ok84 sm_r1100004 (⟨by decide, by decide⟩ : sv_R (0 : Int))
          have md87 : sv_mod [1020, 1021, 1022, 1023, 5, 1011, 3, 4, 1007, 1009, 11, 12, 13, 14, 1024, 15, 16, 1031, 1032, 17, 18, 19, 20, 21, 22, 23, 24, 25, 1042, 1043, 1044, 1045, 1100001, 1100002, 1100005, 1100003, 1100004] S (sv_up (sv_up (sv_up (sv_up (sv_up (sv_sts (sv_sts (sv_up (sv_sts S [1020, 1021, 1022, 1023, 5, 1011, 3, 4, 1007, 1009, 11, 12, 13, 14, 1024, 15, 16, 1031, 1032, 17, 18, 19, 20, 21, 22, 23, 24, 25, 1042, 1043, 1044, 1045, 1100001, 1100002, 1100005, 1100003, 1100004] g5) 1020 0 ((g5 1020 0) + (1 : Int))) [1020, 1021, 1022, 1023, 5, 1011, 3, 4, 1007, 1009, 11, 12, 13, 14, 1024, 15, 16, 1031, 1032, 17, 18, 19, 20, 21, 22, 23, 24, 25, 1042, 1043, 1044, 1045, 1100001, 1100002, 1100005, 1100003, 1100004] g62) [1024, 11, 12, 13, 14] g69) 1100001 r73 ((if (g62 1021 0) = 0 then 1 else 0))) 1100002 r73 ((17 * (20 - (S 1023 0)) + 17))) 1100005 r73 ((20 - (S 1023 0)))) 1100003 r73 (0 : Int)) 1100004 r73 (0 : Int)) := sv_mod.up md85 (by decide)
          have k88 : (sm_WF (g69 11) (g69 12) (g69 13) (g62 1100001) (g62 1100002) (g62 1100005) (g62 1100003) (g62 1100004) (g69 1024 0) (g62 1007 0) (g62 1009 0) (g62 1032 0) → (g62 1100001 r73) = 0 → 0 ≤ r73 → r73 < (g69 1024 0) → (g69 13 r73) = -1 → ((g62 1021 0) = 0 → (g69 11 r73) = 15 ∧ -1 ≤ (g69 12 (5 * r73)) ∧ (g69 12 (5 * r73)) ≤ 10 ∧ sm_ex (g62 1100001) (g62 1100002) (g62 1100005) (g69 1024 0) 1 (g69 12 (5 * r73 + 1)) (17 * (20 - (S 1023 0)) + 14) (20 - (S 1023 0)) ∧ (g69 12 (5 * r73 + 1)) < r73 ∧ ((g69 11 (g69 12 (5 * r73 + 1))) = 2 ∨ (g69 11 (g69 12 (5 * r73 + 1))) = 7) ∧ sm_ex (g62 1100001) (g62 1100002) (g62 1100005) (g69 1024 0) 1 (g69 12 (5 * r73 + 2)) (17 * (20 - (S 1023 0)) + 14) (19 - (S 1023 0))) → sm_WF (g69 11) (g69 12) (g69 13) (fun i' : Int => if i' = r73 then ((if (g62 1021 0) = 0 then 1 else 0)) else (g62 1100001) i') (fun i' : Int => if i' = r73 then ((17 * (20 - (S 1023 0)) + 17)) else (g62 1100002) i') (fun i' : Int => if i' = r73 then ((20 - (S 1023 0))) else (g62 1100005) i') (fun i' : Int => if i' = r73 then (0 : Int) else (g62 1100003) i') (fun i' : Int => if i' = r73 then (0 : Int) else (g62 1100004) i') (g69 1024 0) (g62 1007 0) (g62 1009 0) (g62 1032 0) ∧ sm_PS (g69 11) (g62 1100001) (g62 1100002) (g62 1100005) (g62 1100003) (g62 1100004) (g69 11) (fun i' : Int => if i' = r73 then ((if (g62 1021 0) = 0 then 1 else 0)) else (g62 1100001) i') (fun i' : Int => if i' = r73 then ((17 * (20 - (S 1023 0)) + 17)) else (g62 1100002) i') (fun i' : Int => if i' = r73 then ((20 - (S 1023 0))) else (g62 1100005) i') (fun i' : Int => if i' = r73 then (0 : Int) else (g62 1100003) i') (fun i' : Int => if i' = r73 then (0 : Int) else (g62 1100004) i') (g69 1024 0)) := fun a1 a2 a3 a4 a5 a6 => sm_mk1 a1 a2 a3 a4 a5 (if hf : (g62 1021 0) = 0 then (by rw [if_pos hf]; obtain ⟨c, c1, c2, c3, c4, c5, c6⟩ := a6 hf; exact Or.inr ⟨rfl, sm_c1_15 c ⟨c1, c2⟩ c3 c4 c5 (by have := c6; simpa using this)⟩) else (by rw [if_neg hf]; exact Or.inl rfl))
          have h := h k88
          exact sv_iret hM dX12_assigned_76 rfl rfl ⟨r73, rfl, hr73, ok86, md87, h⟩
      · have h := h.2 (hc)
        refine sv_aload_n hM dX12_assigned_35 rfl rfl ?_
        refine sv_iconst (d := (3 : Int)) hM dX12_assigned_36 rfl rfl ?_
        obtain ⟨o89, h⟩ := h
        refine sv_callV hM dX12_assigned_37 sm_iv_401 (by decide) (sm_a0 _) rfl rfl (Nat.le_of_ble_eq_true rfl) sm_h23 (Nat.le_of_ble_eq_true rfl) (Nat.le_of_ble_eq_true rfl) (F' := 0) (sv_Fn (n := 0) o13) rfl (t_fail (3 : Int) (sv_sts S [1020, 1021, 1022, 1023, 5, 1011, 3, 4, 1007, 1009, 11, 12, 13, 14, 1024, 15, 16, 1031, 1032, 17, 18, 19, 20, 21, 22, 23, 24, 25, 1042, 1043, 1044, 1045, 1100001, 1100002, 1100005, 1100003, 1100004] g5) ok21 (⟨by decide, by decide⟩ : sv_R (3 : Int)) o89) (fun v S1 hq => ?_)
        obtain ⟨r94, rfl, hr94, ok91, md92, hp93⟩ := hq
        obtain ⟨g90, rfl⟩ : ∃ g, S1 = sv_sts (sv_sts S [1020, 1021, 1022, 1023, 5, 1011, 3, 4, 1007, 1009, 11, 12, 13, 14, 1024, 15, 16, 1031, 1032, 17, 18, 19, 20, 21, 22, 23, 24, 25, 1042, 1043, 1044, 1045, 1100001, 1100002, 1100005, 1100003, 1100004] g5) [1021, 1022] g := ⟨_, md92.eq⟩
        show sv_T sm_XS sm_cs sm_L sm_sh ((if 0 < (S 1021 0) then 12 else 30 * (20 - (S 1023 0)) + 25)).toNat (q_assigned p1 S) 47 40 [(0, .ref 0), (1, sv_I p1), (2, sv_I r9), (3, sv_I r18)] [sv_I r94] (sv_sts (sv_sts S [1020, 1021, 1022, 1023, 5, 1011, 3, 4, 1007, 1009, 11, 12, 13, 14, 1024, 15, 16, 1031, 1032, 17, 18, 19, 20, 21, 22, 23, 24, 25, 1042, 1043, 1044, 1045, 1100001, 1100002, 1100005, 1100003, 1100004] g5) [1021, 1022] g90)
        have md95 : sv_mod [1020, 1021, 1022, 1023, 5, 1011, 3, 4, 1007, 1009, 11, 12, 13, 14, 1024, 15, 16, 1031, 1032, 17, 18, 19, 20, 21, 22, 23, 24, 25, 1042, 1043, 1044, 1045, 1100001, 1100002, 1100005, 1100003, 1100004] S (sv_sts (sv_sts S [1020, 1021, 1022, 1023, 5, 1011, 3, 4, 1007, 1009, 11, 12, 13, 14, 1024, 15, 16, 1031, 1032, 17, 18, 19, 20, 21, 22, 23, 24, 25, 1042, 1043, 1044, 1045, 1100001, 1100002, 1100005, 1100003, 1100004] g5) [1021, 1022] g90) := sv_mod.sts md10 (by decide)
        have h := h r94 hr94 g90 hp93
        refine sv_popI hM dX12_assigned_40 rfl ?_
        refine sv_iconst (d := (-1 : Int)) hM dX12_assigned_41 rfl rfl ?_
        exact sv_iret hM dX12_assigned_42 rfl rfl ⟨(-1 : Int), rfl, (⟨by decide, by decide⟩ : sv_R (-1 : Int)), ok91, md95, h⟩
    · have h := h.2 (hc)
      refine sv_iload_n hM dX12_assigned_25 rfl rfl ?_
      exact sv_iret hM dX12_assigned_26 rfl rfl ⟨r9, rfl, hr9, ok15, md10, h⟩
  · have h := h.2 (hc)
    refine sv_iconst (d := (-1 : Int)) hM dX12_assigned_13 rfl rfl ?_
    exact sv_iret hM dX12_assigned_14 rfl rfl ⟨(-1 : Int), rfl, (⟨by decide, by decide⟩ : sv_R (-1 : Int)), ok6, md10, h⟩
theorem la_conditional_0 {x0 : Int} (h0 : 0 ≤ x0) (h1 : x0 ≤ 1) : 0 ≤ x0 ∧ x0 ≤ 1 := by omega
theorem la_conditional_1 {x0 x1 x2 x3 x4 x5 x6 x7 x8 : Int} (h0 : 0 ≤ x0) (h1 : x0 < x1) (h2 : x1 ≤ 1 + x2) (h3 : 0 ≤ x3) (h4 : x3 ≤ 100) (h5 : 0 ≤ x4) (h6 : x4 ≤ 30) (h7 : 0 ≤ x5) (h8 : x5 ≤ 30) (h9 : 0 ≤ x6) (h10 : x7 = 0 → 0 ≤ x8 ∧ x8 ≤ 20 ∧ x3 ≤ 3 * x8 + 5 ∧ x6 ≤ 2 * x2 ∧ x4 ≤ x8 ∧ x5 ≤ x8) : 0 ≤ x0 ∧ x0 < x1 ∧ x1 ≤ 1 + x2 ∧ 0 ≤ x3 ∧ x3 ≤ 100 ∧ 0 ≤ x4 ∧ x4 ≤ 30 ∧ 0 ≤ x5 ∧ x5 ≤ 30 ∧ 0 ≤ x6 ∧ (x7 = 0 → 0 ≤ x8 ∧ x8 ≤ 20 ∧ x3 ≤ 3 * x8 + 5 ∧ x6 ≤ 2 * x2 ∧ x4 ≤ x8 ∧ x5 ≤ x8) ∧ 0 ≤ 0 ∧ 0 ≤ 10 := by omega
theorem la_conditional_2 {x0 : Int} (h0 : x0 = 10) : 0 ≤ x0 := by omega
theorem la_conditional_3 {x0 x1 x2 x3 x4 x5 x6 x7 : Int} (h0 : 0 ≤ x0) (h1 : x0 = 0 → 0 ≤ x1 ∧ x1 ≤ 20 ∧ x2 ≤ 3 * x1 + 5 ∧ x3 ≤ 2 * x4 ∧ x5 ≤ x1 ∧ x6 ≤ x1) (h2 : ¬ 0 < x0) (h3 : x7 = 30 * (20 - x1) + (23 - 0)) : 0 ≤ x7 := by omega
theorem la_conditional_4 {x0 x1 x2 : Int} (h0 : x0 = x1) (h1 : x2 = 10) (h2 : x0 = 11) : x2 < x1 := by omega
theorem la_conditional_5 {x0 x1 x2 x3 : Int} (h0 : x0 = x1) (h1 : x2 = 30 * (20 - x3) + (23 - 0)) (h2 : x0 = 30 * (20 - x3) + 24) : x2 < x1 := by omega
theorem la_conditional_6 {x0 x1 : Int} (h0 : x0 = 10) (h1 : x1 = 11) : x0 + 1 ≤ x1 := by omega
theorem la_conditional_7 {x0 x1 x2 : Int} (h0 : x0 = 30 * (20 - x1) + (23 - 0)) (h1 : x2 = 30 * (20 - x1) + 24) : x0 + 1 ≤ x2 := by omega
theorem la_conditional_8 {x0 : Int} (h0 : 0 < x0) : ¬ x0 = 0 := by omega
theorem la_conditional_9 {x0 x1 x2 x3 x4 x5 x6 : Int} (h0 : 0 < x0 → x1 ≤ x2 + 2 * (x3 - x4) + 2 * x5) (h1 : 0 < x0) (h2 : x5 = 10) (h3 : x6 = 11) : x1 ≤ x2 + 2 * (x3 - x4) + 2 * x6 := by omega
theorem la_conditional_10 {x0 x1 x2 x3 x4 x5 x6 x7 : Int} (h0 : 0 < x0 → x1 ≤ x2 + 2 * (x3 - x4) + 2 * x5) (h1 : 0 < x0) (h2 : x5 = 30 * (20 - x6) + (23 - 0)) (h3 : x7 = 30 * (20 - x6) + 24) : x1 ≤ x2 + 2 * (x3 - x4) + 2 * x7 := by omega
theorem la_conditional_11 {x0 x1 : Int} (h0 : 0 < x0) (h1 : x0 = 0) : 0 < x1 := by omega
theorem la_conditional_12 {x0 x1 x2 : Int} (h0 : 0 < x0) (h1 : x0 = 0) : x1 < x2 := by omega
theorem la_conditional_13 {x0 x1 : Int} (h0 : 0 < x0) (h1 : x0 = 0) : 1 ≤ x1 := by omega
theorem la_conditional_14 {x0 : Int} (h0 : 0 < x0) (h1 : x0 = 0) : False := by omega
theorem la_conditional_15 {x0 x1 x2 : Int} (h0 : 0 < x0) (h1 : x0 = 0) : x1 ≤ 17 * (20 - x2) + 2 := by omega
theorem la_conditional_16 {x0 x1 x2 x3 x4 : Int} (h0 : x0 ≤ x1) (h1 : 0 < x2 → x1 = x0 ∧ x3 = x4) (h2 : 0 < x2) : x1 = x0 := by omega
theorem la_conditional_17 {x0 x1 x2 x3 x4 : Int} (h0 : x0 ≤ x1) (h1 : 0 < x2 → x3 = x4 ∧ x1 = x0) (h2 : 0 < x2) : x1 = x0 := by omega
theorem la_conditional_18 {x0 x1 : Int} (h0 : 0 < x0 → 0 < x1) (h1 : ¬ 0 < x1) : ¬ 0 < x0 := by omega
theorem la_conditional_19 {x0 : Int} (h0 : 0 ≤ x0) (h1 : ¬ 0 < x0) : x0 = 0 := by omega
theorem la_conditional_20 {x0 x1 x2 : Int} (h0 : 0 ≤ x0) (h1 : x1 ≤ 4001) (h2 : x2 < x1) (h3 : x0 < x2) : 0 ≤ x2 ∧ x2 ≤ 4000 := by omega
theorem la_conditional_21 {x0 x1 x2 x3 x4 x5 x6 x7 x8 : Int} (h0 : 0 ≤ x0) (h1 : x0 = 0 → 0 ≤ x1 ∧ x1 ≤ 20 ∧ x2 ≤ 3 * x1 + 5 ∧ x3 ≤ 2 * x4 ∧ x5 ≤ x1 ∧ x6 ≤ x1) (h2 : 0 < x0 → 0 < x7) (h3 : ¬ 0 < x7) (h4 : x8 = 30 * (20 - x1) + 24) : 0 + 1 ≤ x8 := by omega
theorem la_conditional_22 {x0 x1 x2 : Int} (h0 : 0 ≤ x0) (h1 : x1 ≤ 4001) (h2 : x2 < x1) (h3 : x0 < x2) : sv_R (x2 + 1) := by omega
theorem la_conditional_23 {x0 x1 : Int} (h0 : 0 ≤ x0) (h1 : x0 < x1) : 0 ≤ x1 + 1 := by omega
theorem la_conditional_24 {x0 x1 : Int} (h0 : 0 ≤ x0) (h1 : x0 < x1) : 0 ≤ x1 := by omega
theorem la_conditional_25 {x0 x1 x2 : Int} (h0 : x0 = 5) (h1 : 1 ≤ x0 → x0 ≤ 5 → x1 + 1 < x2) : x1 + 1 < x2 := by omega
theorem la_conditional_26 {x0 x1 : Int} (h0 : 0 ≤ x0) (h1 : x0 ≤ x1) : 0 ≤ x1 := by omega
theorem la_conditional_27 {x0 x1 : Int} (h0 : 0 ≤ x0) (h1 : x1 = x0) : 0 ≤ x1 := by omega
theorem la_conditional_28 {x0 x1 x2 x3 : Int} (h0 : x0 < x1) (h1 : x2 = x0) (h2 : x1 ≤ x3) : x2 < x3 := by omega
theorem la_conditional_29 {x0 x1 : Int} (h0 : x0 ≤ 1 + x1) : x0 ≤ 1 + (x1 + 1) := by omega
theorem la_conditional_30 {x0 x1 : Int} (h0 : x0 ≤ 100) (h1 : x1 = x0) : x1 ≤ 100 := by omega
theorem la_conditional_31 {x0 x1 : Int} (h0 : x0 ≤ 30) (h1 : x1 = x0) : x1 ≤ 30 := by omega
theorem la_conditional_32 {x0 x1 x2 x3 x4 x5 x6 x7 x8 x9 x10 x11 x12 x13 : Int} (h0 : 0 ≤ x0) (h1 : x0 = 0 → 0 ≤ x1 ∧ x1 ≤ 20 ∧ x2 ≤ 3 * x1 + 5 ∧ x3 ≤ 2 * x4 ∧ x5 ≤ x1 ∧ x6 ≤ x1) (h2 : 0 < x0 → 0 < x7) (h3 : x8 = x2) (h4 : x9 = x5) (h5 : x10 = x6) (h6 : x7 = 0 → x11 = x1 ∧ x12 + 1 ≤ x3 + 2 * (x13 - x4)) : x7 = 0 → 0 ≤ x11 ∧ x11 ≤ 20 ∧ x8 ≤ 3 * x11 + 5 ∧ x12 ≤ 2 * (x13 + 1) ∧ x9 ≤ x11 ∧ x10 ≤ x11 := by omega
theorem la_conditional_33 {x0 x1 x2 x3 x4 x5 x6 x7 x8 x9 x10 x11 x12 : Int} (h0 : 0 ≤ x0) (h1 : x0 = 0 → 0 ≤ x1 ∧ x1 ≤ 20 ∧ x2 ≤ 3 * x1 + 5 ∧ x3 ≤ 2 * x4 ∧ x5 ≤ x1 ∧ x6 ≤ x1) (h2 : x7 = x8) (h3 : 0 ≤ x9) (h4 : 0 < x0 → 0 < x9) (h5 : x9 = 0 → x10 = x1 ∧ x11 + 1 ≤ x3 + 2 * (x12 - x4)) (h6 : ¬ 0 < x9) (h7 : x7 = 30 * (20 - x1) + 24) : 0 ≤ 30 * (20 - x10) + 14 ∧ 30 * (20 - x10) + 14 < x8 := by omega
theorem la_conditional_34 {x0 x1 x2 x3 x4 x5 x6 x7 x8 x9 x10 x11 : Int} (h0 : 0 ≤ x0) (h1 : x0 = 0 → 0 ≤ x1 ∧ x1 ≤ 20 ∧ x2 ≤ 3 * x1 + 5 ∧ x3 ≤ 2 * x4 ∧ x5 ≤ x1 ∧ x6 ≤ x1) (h2 : 0 ≤ x7) (h3 : 0 < x0 → 0 < x7) (h4 : x7 = 0 → x8 = x1 ∧ x9 + 1 ≤ x3 + 2 * (x10 - x4)) (h5 : ¬ 0 < x7) (h6 : x11 = 30 * (20 - x1) + 24) : 0 ≤ 30 * (20 - x8) + 14 ∧ 30 * (20 - x8) + 14 + 1 ≤ x11 := by omega
theorem la_conditional_35 {x0 x1 x2 : Int} (h0 : 0 ≤ x0) (h1 : x0 < x1) (h2 : x1 + 1 ≤ x2) : 0 ≤ x2 := by omega
theorem la_conditional_36 {x0 x1 x2 x3 x4 x5 x6 x7 x8 : Int} (h0 : 0 ≤ x0) (h1 : x0 = 0 → 0 ≤ x1 ∧ x1 ≤ 20 ∧ x2 ≤ 3 * x1 + 5 ∧ x3 ≤ 2 * x4 ∧ x5 ≤ x1 ∧ x6 ≤ x1) (h2 : 0 < x0 → 0 < x7) (h3 : ¬ 0 < x7) (h4 : x8 = 30 * (20 - x1) + 24) : 1 + 1 ≤ x8 := by omega
theorem la_conditional_37 {x0 x1 x2 x3 x4 x5 x6 : Int} (h0 : 0 ≤ x0) (h1 : x1 = 0 ∧ 0 < x2 ∧ x3 = x4 ∨ x1 = 1 ∧ x2 = 0 ∧ x0 = 0 ∧ x3 = x4 + 1 ∧ x3 < x5 ∧ x6 = 5) (h2 : ¬ x1 = 0) : x0 = 0 := by omega
theorem la_conditional_38 {x0 x1 x2 x3 x4 x5 x6 x7 x8 : Int} (h0 : 0 ≤ x0) (h1 : x0 < x1) (h2 : x2 = 0 ∧ 0 < x3 ∧ x4 = x5 ∨ x2 = 1 ∧ x3 = 0 ∧ x6 = 0 ∧ x4 = x5 + 1 ∧ x4 < x7 ∧ x8 = 5) (h3 : x1 + 1 < x5) : 0 ≤ x4 := by omega
theorem la_conditional_39 {x0 x1 x2 x3 x4 x5 x6 : Int} (h0 : x0 < x1) (h1 : x2 = 0 ∧ 0 < x3 ∧ x4 = x0 ∨ x2 = 1 ∧ x3 = 0 ∧ x5 = 0 ∧ x4 = x0 + 1 ∧ x4 < x1 ∧ x6 = 5) : x4 < x1 := by omega
theorem la_conditional_40 {x0 x1 x2 x3 x4 x5 x6 : Int} (h0 : x0 = 0 ∧ 0 < x1 ∧ x2 = x3 ∨ x0 = 1 ∧ x1 = 0 ∧ x4 = 0 ∧ x2 = x3 + 1 ∧ x2 < x5 ∧ x6 = 5) : 0 ≤ x1 := by omega
theorem la_conditional_41 {x0 x1 x2 : Int} (h0 : 0 ≤ x0) (h1 : x0 ≤ x1) (h2 : x1 ≤ x2) : 0 ≤ x2 := by omega
theorem la_conditional_42 {x0 x1 x2 x3 x4 x5 x6 x7 x8 x9 x10 x11 x12 x13 x14 x15 x16 x17 x18 x19 x20 x21 x22 x23 x24 x25 x26 x27 x28 x29 x30 x31 x32 : Int} (h0 : 0 ≤ x0) (h1 : 0 ≤ x1) (h2 : x1 < x2) (h3 : 0 ≤ x3) (h4 : x3 ≤ 100) (h5 : 0 ≤ x4) (h6 : x4 ≤ 30) (h7 : 0 ≤ x5) (h8 : x5 ≤ 30) (h9 : x0 = 0 → 0 ≤ x6 ∧ x6 ≤ 20 ∧ x3 ≤ 3 * x6 + 5 ∧ x7 ≤ 2 * x8 ∧ x4 ≤ x6 ∧ x5 ≤ x6) (h10 : 0 ≤ x9) (h11 : 0 < x0 → 0 < x9) (h12 : x10 = x3) (h13 : x11 = x1) (h14 : x12 = x4) (h15 : x13 = x5) (h16 : x2 ≤ x14) (h17 : x9 = 0 → x15 = x6 ∧ x16 + 1 ≤ x7 + 2 * (x17 - x8)) (h18 : ¬ 0 < x9) (h19 : 0 ≤ x18) (h20 : x19 = x10) (h21 : x20 = x11) (h22 : x21 = x12) (h23 : x22 = x13) (h24 : x14 ≤ x23) (h25 : x23 ≤ 1 + x24) (h26 : x18 = 0 → x25 = x15 ∧ x26 + 1 ≤ x16 + 2 * (x24 - (x17 + 1))) (h27 : x27 = 0 ∧ 0 < x28 ∧ x29 = x24 ∨ x27 = 1 ∧ x28 = 0 ∧ x18 = 0 ∧ x29 = x24 + 1 ∧ x29 < x30 ∧ x31 = 5) (h28 : ¬ x27 = 0) (h29 : 0 ≤ x32) (h30 : x32 < x26) : 0 ≤ x20 ∧ x20 < x23 ∧ x23 ≤ 1 + x29 ∧ 0 ≤ x19 ∧ x19 ≤ 100 ∧ 0 ≤ x21 ∧ x21 ≤ 30 ∧ 0 ≤ x22 ∧ x22 ≤ 30 ∧ 0 ≤ x26 ∧ (x28 = 0 → 0 ≤ x25 ∧ x25 ≤ 20 ∧ x19 ≤ 3 * x25 + 5 ∧ x26 ≤ 2 * x29 ∧ x21 ≤ x25 ∧ x22 ≤ x25) ∧ x28 = 0 := by omega
theorem la_conditional_43 {x0 x1 x2 x3 x4 x5 x6 x7 x8 x9 x10 x11 x12 x13 x14 x15 x16 x17 x18 x19 x20 x21 : Int} (h0 : 0 ≤ x0) (h1 : x0 = 0 → 0 ≤ x1 ∧ x1 ≤ 20 ∧ x2 ≤ 3 * x1 + 5 ∧ x3 ≤ 2 * x4 ∧ x5 ≤ x1 ∧ x6 ≤ x1) (h2 : x7 = x8) (h3 : 0 ≤ x9) (h4 : 0 < x0 → 0 < x9) (h5 : x9 = 0 → x10 = x1 ∧ x11 + 1 ≤ x3 + 2 * (x12 - x4)) (h6 : ¬ 0 < x9) (h7 : x7 = 30 * (20 - x1) + 24) (h8 : 0 ≤ x13) (h9 : x13 = 0 → x14 = x10 ∧ x15 + 1 ≤ x11 + 2 * (x16 - (x12 + 1))) (h10 : x17 = 0 ∧ 0 < x18 ∧ x19 = x16 ∨ x17 = 1 ∧ x18 = 0 ∧ x13 = 0 ∧ x19 = x16 + 1 ∧ x19 < x20 ∧ x21 = 5) (h11 : ¬ x17 = 0) : 0 ≤ 30 * (20 - x14) + 14 ∧ 30 * (20 - x14) + 14 < x8 := by omega
theorem la_conditional_44 {x0 x1 x2 x3 x4 x5 x6 x7 x8 x9 x10 x11 x12 x13 x14 x15 x16 x17 x18 x19 x20 : Int} (h0 : 0 ≤ x0) (h1 : x0 = 0 → 0 ≤ x1 ∧ x1 ≤ 20 ∧ x2 ≤ 3 * x1 + 5 ∧ x3 ≤ 2 * x4 ∧ x5 ≤ x1 ∧ x6 ≤ x1) (h2 : 0 ≤ x7) (h3 : 0 < x0 → 0 < x7) (h4 : x7 = 0 → x8 = x1 ∧ x9 + 1 ≤ x3 + 2 * (x10 - x4)) (h5 : ¬ 0 < x7) (h6 : x11 = 30 * (20 - x1) + 24) (h7 : 0 ≤ x12) (h8 : x12 = 0 → x13 = x8 ∧ x14 + 1 ≤ x9 + 2 * (x15 - (x10 + 1))) (h9 : x16 = 0 ∧ 0 < x17 ∧ x18 = x15 ∨ x16 = 1 ∧ x17 = 0 ∧ x12 = 0 ∧ x18 = x15 + 1 ∧ x18 < x19 ∧ x20 = 5) (h10 : ¬ x16 = 0) : 0 ≤ 30 * (20 - x13) + 14 ∧ 30 * (20 - x13) + 14 + 1 ≤ x11 := by omega
theorem la_conditional_45 {x0 x1 x2 x3 x4 x5 x6 x7 x8 x9 x10 x11 x12 x13 x14 x15 x16 x17 x18 x19 x20 x21 x22 x23 x24 : Int} (h0 : x0 ≤ 4001) (h1 : 0 ≤ x1) (h2 : x1 = 0 → 0 ≤ x2 ∧ x2 ≤ 20 ∧ x3 ≤ 3 * x2 + 5 ∧ x4 ≤ 2 * x5 ∧ x6 ≤ x2 ∧ x7 ≤ x2) (h3 : 0 ≤ x8) (h4 : 0 < x1 → 0 < x8) (h5 : x8 = 0 → x9 = x2 ∧ x10 + 1 ≤ x4 + 2 * (x11 - x5)) (h6 : ¬ 0 < x8) (h7 : 0 ≤ x12) (h8 : x12 = 0 → x13 = x9 ∧ x14 + 1 ≤ x10 + 2 * (x15 - (x11 + 1))) (h9 : x16 = 0 ∧ 0 < x17 ∧ x18 = x15 ∨ x16 = 1 ∧ x17 = 0 ∧ x12 = 0 ∧ x18 = x15 + 1 ∧ x18 < x0 ∧ x19 = 5) (h10 : ¬ x16 = 0) (h11 : 0 ≤ x20) (h12 : x20 < x14) (h13 : x21 < x0) (h14 : 0 ≤ x22) (h15 : x14 ≤ x23) (h16 : x22 = 0 → x24 = x13 ∧ x23 + 1 ≤ x14 + 2 * (x21 - x18)) (h17 : 0 < x22 → x23 ≤ x14 + 2 * (x21 - x18) + 2 * (30 * (20 - x13) + 14)) : 0 ≤ x23 ∧ x23 < 12000 := by omega
theorem la_conditional_46 {x0 x1 x2 : Int} (h0 : 0 ≤ x0) (h1 : x0 < x1) (h2 : x1 + 1 < x2) : 0 ≤ x2 := by omega
theorem la_conditional_47 {x0 : Int} (h0 : x0 = 1) : sv_R x0 := by omega
theorem la_conditional_48 {x0 : Int} (h0 : x0 = 0) : sv_R x0 := by omega
theorem la_conditional_49 {x0 x1 x2 x3 x4 x5 x6 x7 : Int} (h0 : 0 ≤ x0) (h1 : x0 = 0 → 0 ≤ x1 ∧ x1 ≤ 20 ∧ x2 ≤ 3 * x1 + 5 ∧ x3 ≤ 2 * x4 ∧ x5 ≤ x1 ∧ x6 ≤ x1) (h2 : 0 < x0 → 0 < x7) (h3 : ¬ 0 < x7) : sv_R (17 * (20 - x1) + 17) := by omega
theorem la_conditional_50 {x0 x1 x2 x3 x4 x5 x6 x7 x8 : Int} (h0 : 0 ≤ x0) (h1 : x0 = 0 → 0 ≤ x1 ∧ x1 ≤ 20 ∧ x2 ≤ 3 * x1 + 5 ∧ x3 ≤ 2 * x4 ∧ x5 ≤ x1 ∧ x6 ≤ x1) (h2 : 0 < x0 → 0 < x7) (h3 : ¬ 0 < x7) (h4 : x8 = 30 * (20 - x1) + (23 - 0)) : sv_R (20 - x1) := by omega
theorem la_conditional_51 {x0 x1 x2 x3 : Int} (h0 : 0 ≤ x0) (h1 : x0 < x1) (h2 : x1 ≤ x2) (h3 : x3 = x2) : 0 ≤ x3 := by omega
theorem la_conditional_52 {x0 x1 x2 : Int} (h0 : x0 = x1) (h1 : x2 = x1 + 1) : x0 < x2 := by omega
theorem la_conditional_53 {x0 : Int} : 17 * (20 - x0) + (15 - 0) ≤ 17 * (20 - x0) + 15 := by omega
theorem la_conditional_54 {x0 x1 x2 x3 : Int} (h0 : x0 ≤ x1) (h1 : x1 ≤ x2) (h2 : x3 = x2 + 1) : x0 ≤ x3 := by omega
theorem la_conditional_55 {x0 x1 x2 x3 x4 x5 x6 : Int} (h0 : 0 ≤ x0) (h1 : x0 = 0 → x1 = x2 ∧ x3 + 1 ≤ x4 + 2 * (x5 - x6)) (h2 : ¬ 0 < x0) : 17 * (20 - x1) ≤ 17 * (20 - x2) + 15 := by omega
theorem la_conditional_56 {x0 x1 x2 x3 x4 x5 x6 : Int} (h0 : 0 ≤ x0) (h1 : x0 = 0 → x1 = x2 ∧ x3 + 1 ≤ x4 + 2 * (x5 - x6)) (h2 : ¬ 0 < x0) : 19 - x1 ≤ 20 - x2 := by omega
theorem la_conditional_57 {x0 x1 x2 : Int} (h0 : x0 ≤ x1) (h1 : x2 = x1 + 1) : x0 ≤ x2 := by omega
theorem la_conditional_58 {x0 x1 x2 x3 x4 x5 x6 x7 x8 x9 x10 x11 x12 x13 x14 x15 : Int} (h0 : 0 ≤ x0) (h1 : x0 = 0 → x1 = x2 ∧ x3 + 1 ≤ x4 + 2 * (x5 - x6)) (h2 : ¬ 0 < x0) (h3 : 0 ≤ x7) (h4 : x7 = 0 → x8 = x1 ∧ x9 + 1 ≤ x3 + 2 * (x10 - (x5 + 1))) (h5 : x11 = 0 ∧ 0 < x12 ∧ x13 = x10 ∨ x11 = 1 ∧ x12 = 0 ∧ x7 = 0 ∧ x13 = x10 + 1 ∧ x13 < x14 ∧ x15 = 5) (h6 : ¬ x11 = 0) : 17 * (20 - x8) ≤ 17 * (20 - x2) + 15 := by omega
theorem la_conditional_59 {x0 x1 x2 x3 x4 x5 x6 x7 x8 x9 x10 x11 x12 x13 x14 x15 : Int} (h0 : 0 ≤ x0) (h1 : x0 = 0 → x1 = x2 ∧ x3 + 1 ≤ x4 + 2 * (x5 - x6)) (h2 : ¬ 0 < x0) (h3 : 0 ≤ x7) (h4 : x7 = 0 → x8 = x1 ∧ x9 + 1 ≤ x3 + 2 * (x10 - (x5 + 1))) (h5 : x11 = 0 ∧ 0 < x12 ∧ x13 = x10 ∨ x11 = 1 ∧ x12 = 0 ∧ x7 = 0 ∧ x13 = x10 + 1 ∧ x13 < x14 ∧ x15 = 5) (h6 : ¬ x11 = 0) : 19 - x8 ≤ 20 - x2 := by omega
theorem la_conditional_60 {x0 x1 : Int} (h0 : x0 = x1 + 1) : x1 ≤ x0 := by omega
theorem la_conditional_61 {x0 x1 x2 x3 x4 x5 x6 x7 x8 x9 : Int} (h0 : x0 < x1) (h1 : x2 = 0 ∧ 0 < x3 ∧ x4 = x5 ∨ x2 = 1 ∧ x3 = 0 ∧ x6 = 0 ∧ x4 = x5 + 1 ∧ x4 < x7 ∧ x8 = 5) (h2 : x1 + 1 < x5) (h3 : x4 ≤ x9) : x0 ≤ x9 := by omega
theorem la_conditional_62 {x0 x1 x2 : Int} (h0 : 0 < x0 → 0 < x1) (h1 : ¬ 0 < x1) : 0 < x0 → 0 < x2 := by omega
theorem la_conditional_63 {x0 x1 x2 x3 : Int} (h0 : x0 ≤ x1) (h1 : x1 ≤ x2) (h2 : x2 ≤ x3) : x0 ≤ x3 := by omega
theorem la_conditional_64 {x0 x1 x2 x3 : Int} (h0 : x0 = 1 → x1 = 1) (h1 : x1 = 1 → x2 = 1) (h2 : x2 = 1 → x3 = 1) : x0 = 1 → x3 = 1 := by omega
theorem la_conditional_65 {x0 x1 x2 x3 x4 : Int} (h0 : x0 ≤ x1) (h1 : x1 ≤ x2) (h2 : x2 ≤ x3) (h3 : x4 = x3 + 1) : x0 ≤ x4 := by omega
theorem la_conditional_66 {x0 x1 x2 : Int} (h0 : x0 ≤ x1) (h1 : x1 ≤ x2) : x0 ≤ x2 := by omega
theorem la_conditional_67 {x0 x1 x2 : Int} (h0 : x0 = x1) (h1 : x2 = x0) : x1 ≤ x2 := by omega
theorem la_conditional_68 {x0 x1 : Int} (h0 : x0 = x1) : x1 ≤ x0 := by omega
theorem la_conditional_69 {x0 x1 x2 x3 : Int} (h0 : x0 = x1) (h1 : x2 = x0) (h2 : x3 = x2) : x3 = x1 := by omega
theorem la_conditional_70 {x0 x1 x2 x3 x4 x5 x6 x7 x8 x9 x10 x11 x12 x13 x14 x15 x16 x17 x18 x19 x20 : Int} (h0 : 0 ≤ x0) (h1 : x0 = 0 → x1 = x2 ∧ x3 + 1 ≤ x4 + 2 * (x5 - x6)) (h2 : ¬ 0 < x0) (h3 : 0 ≤ x7) (h4 : x7 = 0 → x8 = x1 ∧ x9 + 1 ≤ x3 + 2 * (x10 - (x5 + 1))) (h5 : x11 = 0 ∧ 0 < x12 ∧ x13 = x10 ∨ x11 = 1 ∧ x12 = 0 ∧ x7 = 0 ∧ x13 = x10 + 1 ∧ x13 < x14 ∧ x15 = 5) (h6 : 0 < x12 → 0 < x16) (h7 : x16 = 0 → x17 = x8 ∧ x18 + 1 ≤ x9 + 2 * (x19 - x13)) (h8 : x20 = x18 + 1) : x16 = 0 → x17 = x2 ∧ x20 + 1 ≤ x4 + 2 * (x19 - x6) := by omega
theorem la_conditional_71 {x0 x1 x2 x3 x4 x5 x6 x7 x8 x9 x10 x11 x12 x13 x14 x15 x16 x17 x18 x19 x20 : Int} (h0 : 0 ≤ x0) (h1 : x0 = 0 → x1 = x2 ∧ x3 + 1 ≤ x4 + 2 * (x5 - x6)) (h2 : ¬ 0 < x0) (h3 : x7 = 30 * (20 - x2) + 24) (h4 : 0 ≤ x8) (h5 : x8 = 0 → x9 = x1 ∧ x10 + 1 ≤ x3 + 2 * (x11 - (x5 + 1))) (h6 : x12 = 0 ∧ 0 < x13 ∧ x14 = x11 ∨ x12 = 1 ∧ x13 = 0 ∧ x8 = 0 ∧ x14 = x11 + 1 ∧ x14 < x15 ∧ x16 = 5) (h7 : ¬ x12 = 0) (h8 : 0 < x17 → x18 ≤ x10 + 2 * (x19 - x14) + 2 * (30 * (20 - x9) + 14)) (h9 : x20 = x18 + 1) : 0 < x17 → x20 ≤ x4 + 2 * (x19 - x6) + 2 * x7 := by omega
theorem la_conditional_72 {x0 x1 x2 x3 : Int} (h0 : 0 ≤ x0) (h1 : x0 < x1) (h2 : x1 ≤ x2) (h3 : x3 = x2) : (-1) ≤ x3 := by omega
theorem la_conditional_73 {x0 x1 x2 x3 x4 x5 x6 x7 x8 x9 x10 x11 x12 x13 x14 x15 x16 x17 x18 x19 x20 x21 x22 x23 x24 : Int} (h0 : x0 ≤ 4001) (h1 : 0 ≤ x1) (h2 : x1 = 0 → 0 ≤ x2 ∧ x2 ≤ 20 ∧ x3 ≤ 3 * x2 + 5 ∧ x4 ≤ 2 * x5 ∧ x6 ≤ x2 ∧ x7 ≤ x2) (h3 : 0 ≤ x8) (h4 : 0 < x1 → 0 < x8) (h5 : x8 = 0 → x9 = x2 ∧ x10 + 1 ≤ x4 + 2 * (x11 - x5)) (h6 : ¬ 0 < x8) (h7 : 0 ≤ x12) (h8 : x12 = 0 → x13 = x9 ∧ x14 + 1 ≤ x10 + 2 * (x15 - (x11 + 1))) (h9 : x16 = 0 ∧ 0 < x17 ∧ x18 = x15 ∨ x16 = 1 ∧ x17 = 0 ∧ x12 = 0 ∧ x18 = x15 + 1 ∧ x18 < x0 ∧ x19 = 5) (h10 : ¬ x16 = 0) (h11 : x20 < x0) (h12 : 0 ≤ x21) (h13 : x21 = 0 → x22 = x13 ∧ x23 + 1 ≤ x14 + 2 * (x20 - x18)) (h14 : 0 < x21 → x23 ≤ x14 + 2 * (x20 - x18) + 2 * (30 * (20 - x13) + 14)) (h15 : x24 = x23) : x24 < 12000 := by omega
theorem la_conditional_74 {x0 x1 x2 x3 x4 x5 x6 x7 x8 x9 : Int} (h0 : x0 < x1) (h1 : x2 = 0 ∧ 0 < x3 ∧ x4 = x5 ∨ x2 = 1 ∧ x3 = 0 ∧ x6 = 0 ∧ x4 = x5 + 1 ∧ x4 < x7 ∧ x8 = 5) (h2 : x1 + 1 < x5) (h3 : x4 < x9) : x0 < x9 := by omega
theorem la_conditional_75 {x0 x1 x2 : Int} (h0 : x0 = x1) (h1 : 0 ≤ x2) (h2 : x2 < x1) : 0 ≤ x0 := by omega
theorem la_conditional_76 {x0 : Int} : 17 * (20 - x0) + 17 ≤ 17 * (20 - x0) + 17 := by omega
theorem la_conditional_77 {x0 : Int} : 20 - x0 ≤ 20 - x0 := by omega
theorem la_conditional_78 {x0 x1 x2 : Int} (h0 : x0 < x1) (h1 : x2 = x0) : x2 < x1 := by omega
theorem la_conditional_79 {x0 : Int} (h0 : x0 = 1) : ¬ x0 = 0 := by omega
theorem la_conditional_80 {x0 x1 x2 x3 : Int} (h0 : x0 < x1) (h1 : x1 ≤ x2) (h2 : x3 = x0) : x3 < x2 := by omega
theorem la_conditional_81 {x0 x1 x2 : Int} (h0 : x0 < x1) (h1 : x1 ≤ x2) : x0 < x2 := by omega
theorem la_conditional_82 {x0 x1 : Int} (h0 : x0 = 1) (h1 : x1 = x0) : ¬ x1 = 0 := by omega
theorem la_conditional_83 {x0 x1 x2 x3 x4 : Int} (h0 : x0 < x1) (h1 : x1 ≤ x2) (h2 : x2 ≤ x3) (h3 : x4 = x0) : x4 < x3 := by omega
theorem la_conditional_84 {x0 x1 x2 x3 : Int} (h0 : x0 < x1) (h1 : x1 ≤ x2) (h2 : x2 ≤ x3) : x0 < x3 := by omega
theorem la_conditional_85 {x0 x1 x2 : Int} (h0 : x0 = 1) (h1 : x1 = x0) (h2 : x2 = x1) : ¬ x2 = 0 := by omega
theorem la_conditional_86 {x0 : Int} : x0 = x0 := by omega
theorem la_conditional_87 {x0 : Int} (h0 : x0 = 14) (h1 : x0 = 2 ∨ x0 = 7) : False := by omega
theorem la_conditional_88 {x0 x1 x2 x3 : Int} (h0 : 0 < x0 → 0 < x1) (h1 : ¬ 0 < x1) (h2 : 0 < x0) : x2 = x3 := by omega
theorem la_conditional_89 {x0 x1 x2 x3 x4 x5 x6 : Int} (h0 : 0 < x0 → 0 < x1) (h1 : x2 ≤ x3) (h2 : ¬ 0 < x1) (h3 : x3 ≤ x4) (h4 : x4 ≤ x5) (h5 : x6 = x5 + 1) (h6 : 0 < x0) : x6 = x2 := by omega
theorem la_conditional_90 {x0 x1 x2 x3 x4 x5 x6 x7 x8 : Int} (h0 : x0 < x1) (h1 : x1 + 1 ≤ x2) (h2 : x3 = 0 ∧ 0 < x4 ∧ x5 = x2 ∨ x3 = 1 ∧ x4 = 0 ∧ x6 = 0 ∧ x5 = x2 + 1 ∧ x5 < x7 ∧ x8 = 5) : x0 ≤ x5 := by omega
theorem la_conditional_91 {x0 x1 x2 x3 x4 x5 x6 : Int} (h0 : x0 < x1) (h1 : x2 = 0 ∧ 0 < x3 ∧ x4 = x0 ∨ x2 = 1 ∧ x3 = 0 ∧ x5 = 0 ∧ x4 = x0 + 1 ∧ x4 < x1 ∧ x6 = 5) (h2 : ¬ ¬ x2 = 0) : x4 < x1 := by omega
theorem la_conditional_92 {x0 x1 x2 : Int} (h0 : x0 = 1 → x1 = 1) (h1 : x1 = 1 → x2 = 1) : x0 = 1 → x2 = 1 := by omega
theorem la_conditional_93 {x0 x1 x2 : Int} (h0 : x0 = x1) (h1 : x2 = x0) : x2 = x1 := by omega
theorem la_conditional_94 {x0 x1 x2 x3 x4 x5 x6 x7 : Int} (h0 : x0 ≤ 1 + x1) (h1 : x2 = 0 ∧ 0 < x3 ∧ x4 = x1 ∨ x2 = 1 ∧ x3 = 0 ∧ x5 = 0 ∧ x4 = x1 + 1 ∧ x4 < x6 ∧ x7 = 5) : x0 ≤ 1 + x4 := by omega
theorem la_conditional_95 {x0 x1 x2 x3 x4 x5 x6 x7 x8 x9 x10 x11 x12 x13 x14 x15 : Int} (h0 : 0 ≤ x0) (h1 : x0 = 0 → x1 = x2 ∧ x3 + 1 ≤ x4 + 2 * (x5 - x6)) (h2 : ¬ 0 < x0) (h3 : 0 ≤ x7) (h4 : x7 = 0 → x8 = x1 ∧ x9 + 1 ≤ x3 + 2 * (x10 - (x5 + 1))) (h5 : x11 = 0 ∧ 0 < x12 ∧ x13 = x10 ∨ x11 = 1 ∧ x12 = 0 ∧ x7 = 0 ∧ x13 = x10 + 1 ∧ x13 < x14 ∧ x15 = 5) (h6 : ¬ ¬ x11 = 0) : x12 = 0 → x8 = x2 ∧ x9 + 1 ≤ x4 + 2 * (x13 - x6) := by omega
theorem la_conditional_96 {x0 x1 x2 x3 x4 x5 x6 x7 x8 x9 x10 x11 x12 x13 x14 x15 x16 x17 x18 x19 x20 : Int} (h0 : 0 ≤ x0) (h1 : x0 = 0 → 0 ≤ x1 ∧ x1 ≤ 20 ∧ x2 ≤ 3 * x1 + 5 ∧ x3 ≤ 2 * x4 ∧ x5 ≤ x1 ∧ x6 ≤ x1) (h2 : 0 ≤ x7) (h3 : 0 < x0 → 0 < x7) (h4 : x7 = 0 → x8 = x1 ∧ x9 + 1 ≤ x3 + 2 * (x10 - x4)) (h5 : ¬ 0 < x7) (h6 : x11 = 30 * (20 - x1) + 24) (h7 : 0 ≤ x12) (h8 : x12 = 0 → x13 = x8 ∧ x14 + 1 ≤ x9 + 2 * (x15 - (x10 + 1))) (h9 : 0 < x12 → x14 ≤ x9 + 2 * (x15 - (x10 + 1)) + 2 * (30 * (20 - x8) + 14)) (h10 : x16 = 0 ∧ 0 < x17 ∧ x18 = x15 ∨ x16 = 1 ∧ x17 = 0 ∧ x12 = 0 ∧ x18 = x15 + 1 ∧ x18 < x19 ∧ x20 = 5) : 0 < x17 → x14 ≤ x3 + 2 * (x18 - x4) + 2 * x11 := by omega
theorem la_conditional_97 : (-1) ≤ (-1) := by omega
theorem la_conditional_98 : (-1) < 12000 := by omega
theorem la_conditional_99 {x0 x1 x2 x3 x4 x5 x6 : Int} (h0 : 0 ≤ x0) (h1 : x1 = 0 ∧ 0 < x2 ∧ x3 = x4 ∨ x1 = 1 ∧ x2 = 0 ∧ x0 = 0 ∧ x3 = x4 + 1 ∧ x3 < x5 ∧ x6 = 5) (h2 : x2 = 0) : x0 = 0 := by omega
theorem la_conditional_100 {x0 x1 x2 x3 x4 x5 x6 x7 x8 : Int} (h0 : x0 < x1) (h1 : x2 = 0 ∧ 0 < x3 ∧ x4 = x5 ∨ x2 = 1 ∧ x3 = 0 ∧ x6 = 0 ∧ x4 = x5 + 1 ∧ x4 < x7 ∧ x8 = 5) (h2 : x1 + 1 < x5) : x0 < x4 := by omega
theorem la_conditional_101 {x0 x1 x2 x3 x4 x5 x6 x7 : Int} (h0 : x0 = 0 ∧ 0 < x1 ∧ x2 = x3 ∨ x0 = 1 ∧ x1 = 0 ∧ x4 = 0 ∧ x2 = x3 + 1 ∧ x2 < x5 ∧ x6 = 5) (h1 : ¬ ¬ x0 = 0) (h2 : x1 = 0) (h3 : 0 ≤ x7) : (-1) = x7 := by omega
theorem la_conditional_102 {x0 x1 x2 x3 x4 x5 x6 : Int} (h0 : 0 ≤ x0) (h1 : x0 = 0 → x1 = x2 ∧ x3 + 1 ≤ x4 + 2 * (x5 - x6)) (h2 : ¬ 0 < x0) : 17 * (20 - x1) ≤ 17 * (20 - x2) + 17 := by omega
theorem la_conditional_103 {x0 x1 x2 x3 x4 x5 x6 x7 x8 : Int} (h0 : x0 = 0 ∧ 0 < x1 ∧ x2 = x3 ∨ x0 = 1 ∧ x1 = 0 ∧ x4 = 0 ∧ x2 = x3 + 1 ∧ x2 < x5 ∧ x6 = 5) (h1 : ¬ ¬ x0 = 0) (h2 : x1 = 0) : x7 ≤ 17 * (20 - x8) + 2 := by omega
theorem la_conditional_104 {x0 x1 x2 x3 x4 : Int} (h0 : 0 < x0 → 0 < x1) (h1 : x2 ≤ x3) (h2 : ¬ 0 < x1) (h3 : x3 ≤ x4) (h4 : 0 < x0) : x4 = x2 := by omega
theorem la_conditional_105 {x0 x1 x2 x3 x4 x5 : Int} (h0 : ¬ 0 < x0) : 0 < x0 → x1 ≤ x2 + 2 * (x3 - x4) + 2 * x5 := by omega
theorem la_conditional_106 {x0 : Int} : 17 * (20 - x0) + (15 - 0) ≤ 17 * (20 - x0) + 17 := by omega
theorem la_conditional_107 {x0 x1 x2 x3 x4 x5 x6 x7 x8 : Int} (h0 : 0 < x0 → x1 ≤ x2 + 2 * (x3 - x4) + 2 * x5) (h1 : x6 = 2 ∨ x6 = 7 → x7 ≤ 17 * (20 - x8) + 2) (h2 : x6 = 2 ∨ x6 = 7) : x7 ≤ 17 * (20 - x8) + 2 := by omega
theorem la_conditional_108 {x0 x1 x2 x3 : Int} (h0 : 0 < x0 → 0 < x1) (h1 : ¬ 0 < x1) (h2 : x2 < x3) (h3 : 0 < x0) : x3 = x2 := by omega
theorem la_conditional_109 {x0 x1 x2 x3 : Int} (h0 : 0 < x0 → 0 < x1) (h1 : x2 ≤ x3) (h2 : ¬ 0 < x1) (h3 : 0 < x0) : x3 = x2 := by omega
set_option maxHeartbeats 8000000 in
theorem f_conditional : ∀ (d : Int) (p1 : Int) (S : sv_S), sm_ok S → (0 ≤ p1 ∧ p1 ≤ 1) → (0 ≤ (S 1020 0) ∧ (S 1020 0) < (S 1012 0) ∧ sm_TK (S 6) (S 8) (S 9) (S 10) (S 1012 0) ∧ 0 ≤ (S 1021 0) ∧ 0 ≤ (S 1004 0) ∧ (S 1004 0) ≤ 4000 ∧ 0 ≤ (S 1007 0) ∧ (S 1007 0) ≤ 90 ∧ sm_LN (S 4) (S 1007 0) ∧ sm_WF (S 11) (S 12) (S 13) (S 1100001) (S 1100002) (S 1100005) (S 1100003) (S 1100004) (S 1024 0) (S 1007 0) (S 1009 0) (S 1032 0) ∧ sm_HD (S 23) (S 24) (S 1032 0) (S 1007 0) ∧ sm_HD (S 25) (fun _ : Int => (S 1042 0)) 1 (S 1007 0) ∧ 0 ≤ (S 1043 0) ∧ (S 1043 0) < (S 1032 0) ∧ (S 1032 0) ≤ 1 + (S 1020 0) ∧ 0 ≤ (S 1031 0) ∧ (S 1031 0) ≤ 100 ∧ 0 ≤ (S 1044 0) ∧ (S 1044 0) ≤ 30 ∧ 0 ≤ (S 1045 0) ∧ (S 1045 0) ≤ 30 ∧ 0 ≤ (S 1024 0) ∧ ((S 1021 0) = 0 → 0 ≤ (S 1023 0) ∧ (S 1023 0) ≤ 20 ∧ (S 1031 0) ≤ 3 * (S 1023 0) + 5 ∧ (S 1024 0) ≤ 2 * (S 1020 0) ∧ (S 1044 0) ≤ (S 1023 0) ∧ (S 1045 0) ≤ (S 1023 0))) → ((if 0 < (S 1021 0) then 11 else 30 * (20 - (S 1023 0)) + 24)) = d → (0 ≤ p1 ∧ p1 ≤ 1) ∧ (0 ≤ (S 1020 0) ∧ (S 1020 0) < (S 1012 0) ∧ sm_TK (S 6) (S 8) (S 9) (S 10) (S 1012 0) ∧ 0 ≤ (S 1021 0) ∧ 0 ≤ (S 1004 0) ∧ (S 1004 0) ≤ 4000 ∧ 0 ≤ (S 1007 0) ∧ (S 1007 0) ≤ 90 ∧ sm_LN (S 4) (S 1007 0) ∧ sm_WF (S 11) (S 12) (S 13) (S 1100001) (S 1100002) (S 1100005) (S 1100003) (S 1100004) (S 1024 0) (S 1007 0) (S 1009 0) (S 1032 0) ∧ sm_HD (S 23) (S 24) (S 1032 0) (S 1007 0) ∧ sm_HD (S 25) (fun _ : Int => (S 1042 0)) 1 (S 1007 0) ∧ 0 ≤ (S 1043 0) ∧ (S 1043 0) < (S 1032 0) ∧ (S 1032 0) ≤ 1 + (S 1020 0) ∧ 0 ≤ (S 1031 0) ∧ (S 1031 0) ≤ 100 ∧ 0 ≤ (S 1044 0) ∧ (S 1044 0) ≤ 30 ∧ 0 ≤ (S 1045 0) ∧ (S 1045 0) ≤ 30 ∧ 0 ≤ (S 1024 0) ∧ ((S 1021 0) = 0 → 0 ≤ (S 1023 0) ∧ (S 1023 0) ≤ 20 ∧ (S 1031 0) ≤ 3 * (S 1023 0) + 5 ∧ (S 1024 0) ≤ 2 * (S 1020 0) ∧ (S 1044 0) ≤ (S 1023 0) ∧ (S 1045 0) ≤ (S 1023 0)) ∧ 0 ≤ (0 : Int) ∧ (0 : Int) ≤ 10) ∧ (0 ≤ ((if 0 < (S 1021 0) then 10 else 30 * (20 - (S 1023 0)) + (23 - (0 : Int)))) ∧ ((if 0 < (S 1021 0) then 10 else 30 * (20 - (S 1023 0)) + (23 - (0 : Int)))) < d) ∧ (0 ≤ ((if 0 < (S 1021 0) then 10 else 30 * (20 - (S 1023 0)) + (23 - (0 : Int)))) ∧ ((if 0 < (S 1021 0) then 10 else 30 * (20 - (S 1023 0)) + (23 - (0 : Int)))) + 1 ≤ ((if 0 < (S 1021 0) then 11 else 30 * (20 - (S 1023 0)) + 24))) ∧ (∀ r9 : Int, sv_R r9 → ∀ g5 : sv_S, ((S 1020 0) ≤ (g5 1020 0) ∧ (g5 1020 0) < (S 1012 0) ∧ 0 ≤ (g5 1021 0) ∧ (0 < (S 1021 0) → 0 < (g5 1021 0)) ∧ (S 1007 0) ≤ (g5 1007 0) ∧ (g5 1007 0) ≤ 90 ∧ sm_LN (g5 4) (g5 1007 0) ∧ ((S 1009 0) = 1 → (g5 1009 0) = 1) ∧ sm_WF (g5 11) (g5 12) (g5 13) (g5 1100001) (g5 1100002) (g5 1100005) (g5 1100003) (g5 1100004) (g5 1024 0) (g5 1007 0) (g5 1009 0) (g5 1032 0) ∧ sm_PS (S 11) (S 1100001) (S 1100002) (S 1100005) (S 1100003) (S 1100004) (g5 11) (g5 1100001) (g5 1100002) (g5 1100005) (g5 1100003) (g5 1100004) (S 1024 0) ∧ sm_KL (S 15) (S 16) (g5 15) (g5 16) (S 1031 0) ∧ sm_HD (g5 23) (g5 24) (g5 1032 0) (g5 1007 0) ∧ sm_HD (g5 25) (fun _ : Int => (g5 1042 0)) 1 (g5 1007 0) ∧ (g5 1031 0) = (S 1031 0) ∧ (g5 1043 0) = (S 1043 0) ∧ (g5 1044 0) = (S 1044 0) ∧ (g5 1045 0) = (S 1045 0) ∧ (S 1032 0) ≤ (g5 1032 0) ∧ (g5 1032 0) ≤ 1 + (g5 1020 0) ∧ (S 1024 0) ≤ (g5 1024 0) ∧ ((g5 1021 0) = 0 → (g5 1023 0) = (S 1023 0) ∧ (g5 1024 0) + 1 ≤ (S 1024 0) + 2 * ((g5 1020 0) - (S 1020 0))) ∧ (0 < (g5 1021 0) → (g5 1024 0) ≤ (S 1024 0) + 2 * ((g5 1020 0) - (S 1020 0)) + 2 * ((if 0 < (S 1021 0) then 10 else 30 * (20 - (S 1023 0)) + (23 - (0 : Int))))) ∧ -1 ≤ r9 ∧ r9 < 12000 ∧ ((g5 1021 0) = 0 → (S 1020 0) < (g5 1020 0) ∧ 1 ≤ (S 6 (S 1020 0)) ∧ sm_ex (g5 1100001) (g5 1100002) (g5 1100005) (g5 1024 0) 1 r9 (17 * (20 - (S 1023 0)) + (15 - (0 : Int))) (20 - (S 1023 0)) ∧ ((g5 11 r9) = 2 ∨ (g5 11 r9) = 7 → (g5 1100002 r9) ≤ 17 * (20 - (S 1023 0)) + 2)) ∧ (0 < (S 1021 0) → (g5 1020 0) = (S 1020 0) ∧ (g5 1024 0) = (S 1024 0))) → (sv_R (g5 1021 0) → ((((0 : Int) < (g5 1021 0)) → ((S 1020 0) ≤ (g5 1020 0) ∧ (g5 1020 0) < (S 1012 0) ∧ 0 ≤ (g5 1021 0) ∧ (0 < (S 1021 0) → 0 < (g5 1021 0)) ∧ (S 1007 0) ≤ (g5 1007 0) ∧ (g5 1007 0) ≤ 90 ∧ sm_LN (g5 4) (g5 1007 0) ∧ ((S 1009 0) = 1 → (g5 1009 0) = 1) ∧ sm_WF (g5 11) (g5 12) (g5 13) (g5 1100001) (g5 1100002) (g5 1100005) (g5 1100003) (g5 1100004) (g5 1024 0) (g5 1007 0) (g5 1009 0) (g5 1032 0) ∧ sm_PS (S 11) (S 1100001) (S 1100002) (S 1100005) (S 1100003) (S 1100004) (g5 11) (g5 1100001) (g5 1100002) (g5 1100005) (g5 1100003) (g5 1100004) (S 1024 0) ∧ sm_KL (S 15) (S 16) (g5 15) (g5 16) (S 1031 0) ∧ sm_HD (g5 23) (g5 24) (g5 1032 0) (g5 1007 0) ∧ sm_HD (g5 25) (fun _ : Int => (g5 1042 0)) 1 (g5 1007 0) ∧ (g5 1031 0) = (S 1031 0) ∧ (g5 1043 0) = (S 1043 0) ∧ (g5 1044 0) = (S 1044 0) ∧ (g5 1045 0) = (S 1045 0) ∧ (S 1032 0) ≤ (g5 1032 0) ∧ (g5 1032 0) ≤ 1 + (g5 1020 0) ∧ (S 1024 0) ≤ (g5 1024 0) ∧ ((g5 1021 0) = 0 → (g5 1023 0) = (S 1023 0) ∧ (g5 1024 0) + 1 ≤ (S 1024 0) + 2 * ((g5 1020 0) - (S 1020 0))) ∧ (0 < (g5 1021 0) → (g5 1024 0) ≤ (S 1024 0) + 2 * ((g5 1020 0) - (S 1020 0)) + 2 * ((if 0 < (S 1021 0) then 11 else 30 * (20 - (S 1023 0)) + 24))) ∧ -1 ≤ r9 ∧ r9 < 12000 ∧ ((g5 1021 0) = 0 → (S 1020 0) < (g5 1020 0) ∧ 1 ≤ (S 6 (S 1020 0)) ∧ sm_ex (g5 1100001) (g5 1100002) (g5 1100005) (g5 1024 0) 1 r9 (17 * (20 - (S 1023 0)) + 17) (20 - (S 1023 0)) ∧ ((g5 11 r9) = 2 ∨ (g5 11 r9) = 7 → (g5 1100002 r9) ≤ 17 * (20 - (S 1023 0)) + 2)) ∧ (0 < (S 1021 0) → (g5 1020 0) = (S 1020 0) ∧ (g5 1024 0) = (S 1024 0)))) ∧ ((¬ ((0 : Int) < (g5 1021 0))) → (0 ≤ (g5 1020 0) ∧ (g5 1020 0) ≤ 4000) ∧ (0 + 1 ≤ ((if 0 < (S 1021 0) then 11 else 30 * (20 - (S 1023 0)) + 24))) ∧ ((((S 6 (g5 1020 0)) = 5 ∧ (S 7 (g5 1020 0)) = (45 : Int)) → (sv_R (g5 1020 0) → (sv_R ((g5 1020 0) + (1 : Int))) ∧ (0 ≤ ((g5 1020 0) + (1 : Int)) ∧ ((g5 1020 0) + (1 : Int)) < (S 1012 0) ∧ sm_TK (S 6) (S 8) (S 9) (S 10) (S 1012 0) ∧ 0 ≤ (g5 1021 0) ∧ 0 ≤ (S 1004 0) ∧ (S 1004 0) ≤ 4000 ∧ 0 ≤ (g5 1007 0) ∧ (g5 1007 0) ≤ 90 ∧ sm_LN (g5 4) (g5 1007 0) ∧ sm_WF (g5 11) (g5 12) (g5 13) (g5 1100001) (g5 1100002) (g5 1100005) (g5 1100003) (g5 1100004) (g5 1024 0) (g5 1007 0) (g5 1009 0) (g5 1032 0) ∧ sm_HD (g5 23) (g5 24) (g5 1032 0) (g5 1007 0) ∧ sm_HD (g5 25) (fun _ : Int => (g5 1042 0)) 1 (g5 1007 0) ∧ 0 ≤ (g5 1043 0) ∧ (g5 1043 0) < (g5 1032 0) ∧ (g5 1032 0) ≤ 1 + ((g5 1020 0) + (1 : Int)) ∧ 0 ≤ (g5 1031 0) ∧ (g5 1031 0) ≤ 100 ∧ 0 ≤ (g5 1044 0) ∧ (g5 1044 0) ≤ 30 ∧ 0 ≤ (g5 1045 0) ∧ (g5 1045 0) ≤ 30 ∧ 0 ≤ (g5 1024 0) ∧ ((g5 1021 0) = 0 → 0 ≤ (g5 1023 0) ∧ (g5 1023 0) ≤ 20 ∧ (g5 1031 0) ≤ 3 * (g5 1023 0) + 5 ∧ (g5 1024 0) ≤ 2 * ((g5 1020 0) + (1 : Int)) ∧ (g5 1044 0) ≤ (g5 1023 0) ∧ (g5 1045 0) ≤ (g5 1023 0)) ∧ (g5 1021 0) = 0) ∧ (0 ≤ (30 * (20 - (g5 1023 0)) + 14) ∧ (30 * (20 - (g5 1023 0)) + 14) < d) ∧ (0 ≤ (30 * (20 - (g5 1023 0)) + 14) ∧ (30 * (20 - (g5 1023 0)) + 14) + 1 ≤ ((if 0 < (S 1021 0) then 11 else 30 * (20 - (S 1023 0)) + 24))) ∧ (∀ r25 : Int, sv_R r25 → ∀ g21 : sv_S, (((g5 1020 0) + (1 : Int)) ≤ (g21 1020 0) ∧ (g21 1020 0) < (S 1012 0) ∧ 0 ≤ (g21 1021 0) ∧ (0 < (g5 1021 0) → 0 < (g21 1021 0)) ∧ (g5 1007 0) ≤ (g21 1007 0) ∧ (g21 1007 0) ≤ 90 ∧ sm_LN (g21 4) (g21 1007 0) ∧ ((g5 1009 0) = 1 → (g21 1009 0) = 1) ∧ sm_WF (g21 11) (g21 12) (g21 13) (g21 1100001) (g21 1100002) (g21 1100005) (g21 1100003) (g21 1100004) (g21 1024 0) (g21 1007 0) (g21 1009 0) (g21 1032 0) ∧ sm_PS (g5 11) (g5 1100001) (g5 1100002) (g5 1100005) (g5 1100003) (g5 1100004) (g21 11) (g21 1100001) (g21 1100002) (g21 1100005) (g21 1100003) (g21 1100004) (g5 1024 0) ∧ sm_KL (g5 15) (g5 16) (g21 15) (g21 16) (g5 1031 0) ∧ sm_HD (g21 23) (g21 24) (g21 1032 0) (g21 1007 0) ∧ sm_HD (g21 25) (fun _ : Int => (g21 1042 0)) 1 (g21 1007 0) ∧ (g21 1031 0) = (g5 1031 0) ∧ (g21 1043 0) = (g5 1043 0) ∧ (g21 1044 0) = (g5 1044 0) ∧ (g21 1045 0) = (g5 1045 0) ∧ (g5 1032 0) ≤ (g21 1032 0) ∧ (g21 1032 0) ≤ 1 + (g21 1020 0) ∧ (g5 1024 0) ≤ (g21 1024 0) ∧ ((g21 1021 0) = 0 → (g21 1023 0) = (g5 1023 0) ∧ (g21 1024 0) + 1 ≤ (g5 1024 0) + 2 * ((g21 1020 0) - ((g5 1020 0) + (1 : Int)))) ∧ (0 < (g21 1021 0) → (g21 1024 0) ≤ (g5 1024 0) + 2 * ((g21 1020 0) - ((g5 1020 0) + (1 : Int))) + 2 * (30 * (20 - (g5 1023 0)) + 14)) ∧ -1 ≤ r25 ∧ r25 < 12000 ∧ ((g21 1021 0) = 0 → sm_ex (g21 1100001) (g21 1100002) (g21 1100005) (g21 1024 0) 1 r25 (17 * (20 - (g5 1023 0))) (19 - (g5 1023 0)) ∧ ((g5 1020 0) + (1 : Int)) < (g21 1020 0))) → (0 ≤ (g21 1020 0) ∧ (g21 1020 0) < (S 1012 0) ∧ sm_TK (S 6) (S 8) (S 9) (S 10) (S 1012 0) ∧ 0 ≤ (g21 1021 0)) ∧ (1 + 1 ≤ ((if 0 < (S 1021 0) then 11 else 30 * (20 - (S 1023 0)) + 24))) ∧ (∀ r33 : Int, sv_R r33 → ∀ g29 : sv_S, ((r33 = 0 ∧ 0 < (g29 1021 0) ∧ (g29 1020 0) = (g21 1020 0)) ∨ (r33 = 1 ∧ (g29 1021 0) = 0 ∧ (g21 1021 0) = 0 ∧ (g29 1020 0) = (g21 1020 0) + 1 ∧ (g29 1020 0) < (S 1012 0) ∧ (S 6 (g21 1020 0)) = 5)) → (((¬ r33 = (0 : Int)) → (0 ≤ (g29 1020 0) ∧ (g29 1020 0) < (S 1012 0) ∧ sm_TK (S 6) (S 8) (S 9) (S 10) (S 1012 0) ∧ 0 ≤ (g29 1021 0) ∧ 0 ≤ (S 1004 0) ∧ (S 1004 0) ≤ 4000 ∧ 0 ≤ (g21 1007 0) ∧ (g21 1007 0) ≤ 90 ∧ sm_LN (g21 4) (g21 1007 0) ∧ sm_WF (g21 11) (g21 12) (g21 13) (g21 1100001) (g21 1100002) (g21 1100005) (g21 1100003) (g21 1100004) (g21 1024 0) (g21 1007 0) (g21 1009 0) (g21 1032 0) ∧ sm_HD (g21 23) (g21 24) (g21 1032 0) (g21 1007 0) ∧ sm_HD (g21 25) (fun _ : Int => (g21 1042 0)) 1 (g21 1007 0) ∧ 0 ≤ (g21 1043 0) ∧ (g21 1043 0) < (g21 1032 0) ∧ (g21 1032 0) ≤ 1 + (g29 1020 0) ∧ 0 ≤ (g21 1031 0) ∧ (g21 1031 0) ≤ 100 ∧ 0 ≤ (g21 1044 0) ∧ (g21 1044 0) ≤ 30 ∧ 0 ≤ (g21 1045 0) ∧ (g21 1045 0) ≤ 30 ∧ 0 ≤ (g21 1024 0) ∧ ((g29 1021 0) = 0 → 0 ≤ (g21 1023 0) ∧ (g21 1023 0) ≤ 20 ∧ (g21 1031 0) ≤ 3 * (g21 1023 0) + 5 ∧ (g21 1024 0) ≤ 2 * (g29 1020 0) ∧ (g21 1044 0) ≤ (g21 1023 0) ∧ (g21 1045 0) ≤ (g21 1023 0)) ∧ (g29 1021 0) = 0) ∧ (0 ≤ (30 * (20 - (g21 1023 0)) + 14) ∧ (30 * (20 - (g21 1023 0)) + 14) < d) ∧ (0 ≤ (30 * (20 - (g21 1023 0)) + 14) ∧ (30 * (20 - (g21 1023 0)) + 14) + 1 ≤ ((if 0 < (S 1021 0) then 11 else 30 * (20 - (S 1023 0)) + 24))) ∧ (∀ r42 : Int, sv_R r42 → ∀ g38 : sv_S, ((g29 1020 0) ≤ (g38 1020 0) ∧ (g38 1020 0) < (S 1012 0) ∧ 0 ≤ (g38 1021 0) ∧ (0 < (g29 1021 0) → 0 < (g38 1021 0)) ∧ (g21 1007 0) ≤ (g38 1007 0) ∧ (g38 1007 0) ≤ 90 ∧ sm_LN (g38 4) (g38 1007 0) ∧ ((g21 1009 0) = 1 → (g38 1009 0) = 1) ∧ sm_WF (g38 11) (g38 12) (g38 13) (g38 1100001) (g38 1100002) (g38 1100005) (g38 1100003) (g38 1100004) (g38 1024 0) (g38 1007 0) (g38 1009 0) (g38 1032 0) ∧ sm_PS (g21 11) (g21 1100001) (g21 1100002) (g21 1100005) (g21 1100003) (g21 1100004) (g38 11) (g38 1100001) (g38 1100002) (g38 1100005) (g38 1100003) (g38 1100004) (g21 1024 0) ∧ sm_KL (g21 15) (g21 16) (g38 15) (g38 16) (g21 1031 0) ∧ sm_HD (g38 23) (g38 24) (g38 1032 0) (g38 1007 0) ∧ sm_HD (g38 25) (fun _ : Int => (g38 1042 0)) 1 (g38 1007 0) ∧ (g38 1031 0) = (g21 1031 0) ∧ (g38 1043 0) = (g21 1043 0) ∧ (g38 1044 0) = (g21 1044 0) ∧ (g38 1045 0) = (g21 1045 0) ∧ (g21 1032 0) ≤ (g38 1032 0) ∧ (g38 1032 0) ≤ 1 + (g38 1020 0) ∧ (g21 1024 0) ≤ (g38 1024 0) ∧ ((g38 1021 0) = 0 → (g38 1023 0) = (g21 1023 0) ∧ (g38 1024 0) + 1 ≤ (g21 1024 0) + 2 * ((g38 1020 0) - (g29 1020 0))) ∧ (0 < (g38 1021 0) → (g38 1024 0) ≤ (g21 1024 0) + 2 * ((g38 1020 0) - (g29 1020 0)) + 2 * (30 * (20 - (g21 1023 0)) + 14)) ∧ -1 ≤ r42 ∧ r42 < 12000 ∧ ((g38 1021 0) = 0 → sm_ex (g38 1100001) (g38 1100002) (g38 1100005) (g38 1024 0) 1 r42 (17 * (20 - (g21 1023 0))) (19 - (g21 1023 0)) ∧ (g29 1020 0) < (g38 1020 0))) → (0 ≤ (g38 1024 0) ∧ (g38 1024 0) < 12000) ∧ (∀ r49 : Int, sv_R r49 → ∀ g45 : sv_S, (r49 = (g38 1024 0) ∧ (g45 1024 0) = (g38 1024 0) + 1 ∧ (g45 11 r49) = (14 : Int) ∧ (g45 12 (5 * r49)) = r9 ∧ (g45 12 (5 * r49 + 1)) = r25 ∧ (g45 12 (5 * r49 + 2)) = r42 ∧ (g45 12 (5 * r49 + 3)) = -1 ∧ (g45 12 (5 * r49 + 4)) = -1 ∧ (g45 13 r49) = -1 ∧ (g45 14 r49) = 0 ∧ (∀ n : Int, n < (g38 1024 0) → (g45 14 n) = (g38 14 n)) ∧ (sm_WF (g38 11) (g38 12) (g38 13) (g38 1100001) (g38 1100002) (g38 1100005) (g38 1100003) (g38 1100004) (g38 1024 0) (g38 1007 0) (g38 1009 0) (g38 1032 0) → sm_WF (g45 11) (g45 12) (g45 13) (g38 1100001) (g38 1100002) (g38 1100005) (g38 1100003) (g38 1100004) (g45 1024 0) (g38 1007 0) (g38 1009 0) (g38 1032 0) ∧ (g38 1100001 r49) = 0) ∧ sm_PS (g38 11) (g38 1100001) (g38 1100002) (g38 1100005) (g38 1100003) (g38 1100004) (g45 11) (g38 1100001) (g38 1100002) (g38 1100005) (g38 1100003) (g38 1100004) (g38 1024 0)) → (sv_R ((if (g38 1021 0) = 0 then 1 else 0))) ∧ (sv_R ((17 * (20 - (S 1023 0)) + 17))) ∧ (sv_R ((20 - (S 1023 0)))) ∧ ((sm_WF (g45 11) (g45 12) (g45 13) (g38 1100001) (g38 1100002) (g38 1100005) (g38 1100003) (g38 1100004) (g45 1024 0) (g38 1007 0) (g38 1009 0) (g38 1032 0) → (g38 1100001 r49) = 0 → 0 ≤ r49 → r49 < (g45 1024 0) → (g45 13 r49) = -1 → ((g38 1021 0) = 0 → (g45 11 r49) = 14 ∧ sm_ex (g38 1100001) (g38 1100002) (g38 1100005) (g45 1024 0) 1 (g45 12 (5 * r49)) (17 * (20 - (S 1023 0)) + 15) (20 - (S 1023 0)) ∧ sm_ex (g38 1100001) (g38 1100002) (g38 1100005) (g45 1024 0) 1 (g45 12 (5 * r49 + 1)) (17 * (20 - (S 1023 0)) + 15) (20 - (S 1023 0)) ∧ sm_ex (g38 1100001) (g38 1100002) (g38 1100005) (g45 1024 0) 1 (g45 12 (5 * r49 + 2)) (17 * (20 - (S 1023 0)) + 15) (20 - (S 1023 0))) → sm_WF (g45 11) (g45 12) (g45 13) (fun i' : Int => if i' = r49 then ((if (g38 1021 0) = 0 then 1 else 0)) else (g38 1100001) i') (fun i' : Int => if i' = r49 then ((17 * (20 - (S 1023 0)) + 17)) else (g38 1100002) i') (fun i' : Int => if i' = r49 then ((20 - (S 1023 0))) else (g38 1100005) i') (fun i' : Int => if i' = r49 then (0 : Int) else (g38 1100003) i') (fun i' : Int => if i' = r49 then (0 : Int) else (g38 1100004) i') (g45 1024 0) (g38 1007 0) (g38 1009 0) (g38 1032 0) ∧ sm_PS (g45 11) (g38 1100001) (g38 1100002) (g38 1100005) (g38 1100003) (g38 1100004) (g45 11) (fun i' : Int => if i' = r49 then ((if (g38 1021 0) = 0 then 1 else 0)) else (g38 1100001) i') (fun i' : Int => if i' = r49 then ((17 * (20 - (S 1023 0)) + 17)) else (g38 1100002) i') (fun i' : Int => if i' = r49 then ((20 - (S 1023 0))) else (g38 1100005) i') (fun i' : Int => if i' = r49 then (0 : Int) else (g38 1100003) i') (fun i' : Int => if i' = r49 then (0 : Int) else (g38 1100004) i') (g45 1024 0)) → ((S 1020 0) ≤ (g38 1020 0) ∧ (g38 1020 0) < (S 1012 0) ∧ 0 ≤ (g38 1021 0) ∧ (0 < (S 1021 0) → 0 < (g38 1021 0)) ∧ (S 1007 0) ≤ (g38 1007 0) ∧ (g38 1007 0) ≤ 90 ∧ sm_LN (g38 4) (g38 1007 0) ∧ ((S 1009 0) = 1 → (g38 1009 0) = 1) ∧ sm_WF (g45 11) (g45 12) (g45 13) (fun i' : Int => if i' = r49 then ((if (g38 1021 0) = 0 then 1 else 0)) else (g38 1100001) i') (fun i' : Int => if i' = r49 then ((17 * (20 - (S 1023 0)) + 17)) else (g38 1100002) i') (fun i' : Int => if i' = r49 then ((20 - (S 1023 0))) else (g38 1100005) i') (fun i' : Int => if i' = r49 then (0 : Int) else (g38 1100003) i') (fun i' : Int => if i' = r49 then (0 : Int) else (g38 1100004) i') (g45 1024 0) (g38 1007 0) (g38 1009 0) (g38 1032 0) ∧ sm_PS (S 11) (S 1100001) (S 1100002) (S 1100005) (S 1100003) (S 1100004) (g45 11) (fun i' : Int => if i' = r49 then ((if (g38 1021 0) = 0 then 1 else 0)) else (g38 1100001) i') (fun i' : Int => if i' = r49 then ((17 * (20 - (S 1023 0)) + 17)) else (g38 1100002) i') (fun i' : Int => if i' = r49 then ((20 - (S 1023 0))) else (g38 1100005) i') (fun i' : Int => if i' = r49 then (0 : Int) else (g38 1100003) i') (fun i' : Int => if i' = r49 then (0 : Int) else (g38 1100004) i') (S 1024 0) ∧ sm_KL (S 15) (S 16) (g38 15) (g38 16) (S 1031 0) ∧ sm_HD (g38 23) (g38 24) (g38 1032 0) (g38 1007 0) ∧ sm_HD (g38 25) (fun _ : Int => (g38 1042 0)) 1 (g38 1007 0) ∧ (g38 1031 0) = (S 1031 0) ∧ (g38 1043 0) = (S 1043 0) ∧ (g38 1044 0) = (S 1044 0) ∧ (g38 1045 0) = (S 1045 0) ∧ (S 1032 0) ≤ (g38 1032 0) ∧ (g38 1032 0) ≤ 1 + (g38 1020 0) ∧ (S 1024 0) ≤ (g45 1024 0) ∧ ((g38 1021 0) = 0 → (g38 1023 0) = (S 1023 0) ∧ (g45 1024 0) + 1 ≤ (S 1024 0) + 2 * ((g38 1020 0) - (S 1020 0))) ∧ (0 < (g38 1021 0) → (g45 1024 0) ≤ (S 1024 0) + 2 * ((g38 1020 0) - (S 1020 0)) + 2 * ((if 0 < (S 1021 0) then 11 else 30 * (20 - (S 1023 0)) + 24))) ∧ -1 ≤ r49 ∧ r49 < 12000 ∧ ((g38 1021 0) = 0 → (S 1020 0) < (g38 1020 0) ∧ 1 ≤ (S 6 (S 1020 0)) ∧ sm_ex (fun i' : Int => if i' = r49 then ((if (g38 1021 0) = 0 then 1 else 0)) else (g38 1100001) i') (fun i' : Int => if i' = r49 then ((17 * (20 - (S 1023 0)) + 17)) else (g38 1100002) i') (fun i' : Int => if i' = r49 then ((20 - (S 1023 0))) else (g38 1100005) i') (g45 1024 0) 1 r49 (17 * (20 - (S 1023 0)) + 17) (20 - (S 1023 0)) ∧ ((g45 11 r49) = 2 ∨ (g45 11 r49) = 7 → (if r49 = r49 then ((17 * (20 - (S 1023 0)) + 17)) else (g38 1100002 r49)) ≤ 17 * (20 - (S 1023 0)) + 2)) ∧ (0 < (S 1021 0) → (g38 1020 0) = (S 1020 0) ∧ (g45 1024 0) = (S 1024 0))))))) ∧ ((¬ (¬ r33 = (0 : Int))) → ((S 1020 0) ≤ (g29 1020 0) ∧ (g29 1020 0) < (S 1012 0) ∧ 0 ≤ (g29 1021 0) ∧ (0 < (S 1021 0) → 0 < (g29 1021 0)) ∧ (S 1007 0) ≤ (g21 1007 0) ∧ (g21 1007 0) ≤ 90 ∧ sm_LN (g21 4) (g21 1007 0) ∧ ((S 1009 0) = 1 → (g21 1009 0) = 1) ∧ sm_WF (g21 11) (g21 12) (g21 13) (g21 1100001) (g21 1100002) (g21 1100005) (g21 1100003) (g21 1100004) (g21 1024 0) (g21 1007 0) (g21 1009 0) (g21 1032 0) ∧ sm_PS (S 11) (S 1100001) (S 1100002) (S 1100005) (S 1100003) (S 1100004) (g21 11) (g21 1100001) (g21 1100002) (g21 1100005) (g21 1100003) (g21 1100004) (S 1024 0) ∧ sm_KL (S 15) (S 16) (g21 15) (g21 16) (S 1031 0) ∧ sm_HD (g21 23) (g21 24) (g21 1032 0) (g21 1007 0) ∧ sm_HD (g21 25) (fun _ : Int => (g21 1042 0)) 1 (g21 1007 0) ∧ (g21 1031 0) = (S 1031 0) ∧ (g21 1043 0) = (S 1043 0) ∧ (g21 1044 0) = (S 1044 0) ∧ (g21 1045 0) = (S 1045 0) ∧ (S 1032 0) ≤ (g21 1032 0) ∧ (g21 1032 0) ≤ 1 + (g29 1020 0) ∧ (S 1024 0) ≤ (g21 1024 0) ∧ ((g29 1021 0) = 0 → (g21 1023 0) = (S 1023 0) ∧ (g21 1024 0) + 1 ≤ (S 1024 0) + 2 * ((g29 1020 0) - (S 1020 0))) ∧ (0 < (g29 1021 0) → (g21 1024 0) ≤ (S 1024 0) + 2 * ((g29 1020 0) - (S 1020 0)) + 2 * ((if 0 < (S 1021 0) then 11 else 30 * (20 - (S 1023 0)) + 24))) ∧ -1 ≤ (-1 : Int) ∧ (-1 : Int) < 12000 ∧ ((g29 1021 0) = 0 → (S 1020 0) < (g29 1020 0) ∧ 1 ≤ (S 6 (S 1020 0)) ∧ sm_ex (g21 1100001) (g21 1100002) (g21 1100005) (g21 1024 0) 1 (-1 : Int) (17 * (20 - (S 1023 0)) + 17) (20 - (S 1023 0)) ∧ ((g21 11 (-1 : Int)) = 2 ∨ (g21 11 (-1 : Int)) = 7 → (g21 1100002 (-1 : Int)) ≤ 17 * (20 - (S 1023 0)) + 2)) ∧ (0 < (S 1021 0) → (g29 1020 0) = (S 1020 0) ∧ (g21 1024 0) = (S 1024 0))))))))) ∧ ((¬ ((S 6 (g5 1020 0)) = 5 ∧ (S 7 (g5 1020 0)) = (45 : Int))) → ((S 1020 0) ≤ (g5 1020 0) ∧ (g5 1020 0) < (S 1012 0) ∧ 0 ≤ (g5 1021 0) ∧ (0 < (S 1021 0) → 0 < (g5 1021 0)) ∧ (S 1007 0) ≤ (g5 1007 0) ∧ (g5 1007 0) ≤ 90 ∧ sm_LN (g5 4) (g5 1007 0) ∧ ((S 1009 0) = 1 → (g5 1009 0) = 1) ∧ sm_WF (g5 11) (g5 12) (g5 13) (g5 1100001) (g5 1100002) (g5 1100005) (g5 1100003) (g5 1100004) (g5 1024 0) (g5 1007 0) (g5 1009 0) (g5 1032 0) ∧ sm_PS (S 11) (S 1100001) (S 1100002) (S 1100005) (S 1100003) (S 1100004) (g5 11) (g5 1100001) (g5 1100002) (g5 1100005) (g5 1100003) (g5 1100004) (S 1024 0) ∧ sm_KL (S 15) (S 16) (g5 15) (g5 16) (S 1031 0) ∧ sm_HD (g5 23) (g5 24) (g5 1032 0) (g5 1007 0) ∧ sm_HD (g5 25) (fun _ : Int => (g5 1042 0)) 1 (g5 1007 0) ∧ (g5 1031 0) = (S 1031 0) ∧ (g5 1043 0) = (S 1043 0) ∧ (g5 1044 0) = (S 1044 0) ∧ (g5 1045 0) = (S 1045 0) ∧ (S 1032 0) ≤ (g5 1032 0) ∧ (g5 1032 0) ≤ 1 + (g5 1020 0) ∧ (S 1024 0) ≤ (g5 1024 0) ∧ ((g5 1021 0) = 0 → (g5 1023 0) = (S 1023 0) ∧ (g5 1024 0) + 1 ≤ (S 1024 0) + 2 * ((g5 1020 0) - (S 1020 0))) ∧ (0 < (g5 1021 0) → (g5 1024 0) ≤ (S 1024 0) + 2 * ((g5 1020 0) - (S 1020 0)) + 2 * ((if 0 < (S 1021 0) then 11 else 30 * (20 - (S 1023 0)) + 24))) ∧ -1 ≤ r9 ∧ r9 < 12000 ∧ ((g5 1021 0) = 0 → (S 1020 0) < (g5 1020 0) ∧ 1 ≤ (S 6 (S 1020 0)) ∧ sm_ex (g5 1100001) (g5 1100002) (g5 1100005) (g5 1024 0) 1 r9 (17 * (20 - (S 1023 0)) + 17) (20 - (S 1023 0)) ∧ ((g5 11 r9) = 2 ∨ (g5 11 r9) = 7 → (g5 1100002 r9) ≤ 17 * (20 - (S 1023 0)) + 2)) ∧ (0 < (S 1021 0) → (g5 1020 0) = (S 1020 0) ∧ (g5 1024 0) = (S 1024 0))))))))) := by
  intro d
  intro p1
  intro S
  intro h1_
  rintro ⟨h2_, h3_⟩
  rintro ⟨h4_, ⟨h5_, ⟨h6_, ⟨h7_, ⟨h8_, ⟨h9_, ⟨h10_, ⟨h11_, ⟨h12_, ⟨h13_, ⟨h14_, ⟨h15_, ⟨h16_, ⟨h17_, ⟨h18_, ⟨h19_, ⟨h20_, ⟨h21_, ⟨h22_, ⟨h23_, ⟨h24_, ⟨h25_, h26_⟩⟩⟩⟩⟩⟩⟩⟩⟩⟩⟩⟩⟩⟩⟩⟩⟩⟩⟩⟩⟩⟩
  intro h27_
  refine ⟨(la_conditional_0 h2_ h3_), ?_⟩
  refine ⟨⟨h4_, ⟨h5_, ⟨h6_, ⟨h7_, ⟨h8_, ⟨h9_, ⟨h10_, ⟨h11_, ⟨h12_, ⟨h13_, ⟨h14_, ⟨h15_, (la_conditional_1 h16_ h17_ h18_ h19_ h20_ h21_ h22_ h23_ h24_ h25_ h26_)⟩⟩⟩⟩⟩⟩⟩⟩⟩⟩⟩⟩, ?_⟩
  refine ⟨?_, ?_⟩
  · skip
    refine ⟨?_, ?_⟩
    · skip
      by_cases c28_ : 0 < S 1021 0
      · skip
        have e29_ : (if 0 < S 1021 0 then 10 else 30 * (20 - S 1023 0) + (23 - 0) : Int) = 10 := if_pos c28_
        have e30_ : (if 0 < S 1021 0 then 11 else 30 * (20 - S 1023 0) + 24 : Int) = 11 := if_pos c28_
        exact (la_conditional_2 e29_)
      · skip
        have e31_ : (if 0 < S 1021 0 then 10 else 30 * (20 - S 1023 0) + (23 - 0) : Int) = 30 * (20 - S 1023 0) + (23 - 0) := if_neg c28_
        have e32_ : (if 0 < S 1021 0 then 11 else 30 * (20 - S 1023 0) + 24 : Int) = 30 * (20 - S 1023 0) + 24 := if_neg c28_
        exact (la_conditional_3 h7_ h26_ c28_ e31_)
    by_cases c33_ : 0 < S 1021 0
    · skip
      have e34_ : (if 0 < S 1021 0 then 10 else 30 * (20 - S 1023 0) + (23 - 0) : Int) = 10 := if_pos c33_
      have e35_ : (if 0 < S 1021 0 then 11 else 30 * (20 - S 1023 0) + 24 : Int) = 11 := if_pos c33_
      exact (la_conditional_4 h27_ e34_ e35_)
    · skip
      have e36_ : (if 0 < S 1021 0 then 10 else 30 * (20 - S 1023 0) + (23 - 0) : Int) = 30 * (20 - S 1023 0) + (23 - 0) := if_neg c33_
      have e37_ : (if 0 < S 1021 0 then 11 else 30 * (20 - S 1023 0) + 24 : Int) = 30 * (20 - S 1023 0) + 24 := if_neg c33_
      exact (la_conditional_5 h27_ e36_ e37_)
  refine ⟨?_, ?_⟩
  · skip
    refine ⟨?_, ?_⟩
    · skip
      by_cases c38_ : 0 < S 1021 0
      · skip
        have e39_ : (if 0 < S 1021 0 then 10 else 30 * (20 - S 1023 0) + (23 - 0) : Int) = 10 := if_pos c38_
        have e40_ : (if 0 < S 1021 0 then 11 else 30 * (20 - S 1023 0) + 24 : Int) = 11 := if_pos c38_
        exact (la_conditional_2 e39_)
      · skip
        have e41_ : (if 0 < S 1021 0 then 10 else 30 * (20 - S 1023 0) + (23 - 0) : Int) = 30 * (20 - S 1023 0) + (23 - 0) := if_neg c38_
        have e42_ : (if 0 < S 1021 0 then 11 else 30 * (20 - S 1023 0) + 24 : Int) = 30 * (20 - S 1023 0) + 24 := if_neg c38_
        exact (la_conditional_3 h7_ h26_ c38_ e41_)
    by_cases c43_ : 0 < S 1021 0
    · skip
      have e44_ : (if 0 < S 1021 0 then 10 else 30 * (20 - S 1023 0) + (23 - 0) : Int) = 10 := if_pos c43_
      have e45_ : (if 0 < S 1021 0 then 11 else 30 * (20 - S 1023 0) + 24 : Int) = 11 := if_pos c43_
      exact (la_conditional_6 e44_ e45_)
    · skip
      have e46_ : (if 0 < S 1021 0 then 10 else 30 * (20 - S 1023 0) + (23 - 0) : Int) = 30 * (20 - S 1023 0) + (23 - 0) := if_neg c43_
      have e47_ : (if 0 < S 1021 0 then 11 else 30 * (20 - S 1023 0) + 24 : Int) = 30 * (20 - S 1023 0) + 24 := if_neg c43_
      exact (la_conditional_7 e46_ e47_)
  intro r9
  intro h48_
  intro g5
  rintro ⟨h49_, ⟨h50_, ⟨h51_, ⟨h52_, ⟨h53_, ⟨h54_, ⟨h55_, ⟨h56_, ⟨h57_, ⟨h58_, ⟨h59_, ⟨h60_, ⟨h61_, ⟨h62_, ⟨h63_, ⟨h64_, ⟨h65_, ⟨h66_, ⟨h67_, ⟨h68_, ⟨h69_, ⟨h70_, ⟨h71_, ⟨h72_, ⟨h73_, h74_⟩⟩⟩⟩⟩⟩⟩⟩⟩⟩⟩⟩⟩⟩⟩⟩⟩⟩⟩⟩⟩⟩⟩⟩⟩
  intro h75_
  refine ⟨?_, ?_⟩
  · skip
    intro h76_
    refine ⟨h49_, ?_⟩
    refine ⟨h50_, ?_⟩
    refine ⟨h51_, ?_⟩
    refine ⟨h52_, ?_⟩
    refine ⟨h53_, ?_⟩
    refine ⟨h54_, ?_⟩
    refine ⟨h55_, ?_⟩
    refine ⟨h56_, ?_⟩
    refine ⟨h57_, ?_⟩
    refine ⟨h58_, ?_⟩
    refine ⟨h59_, ?_⟩
    refine ⟨h60_, ?_⟩
    refine ⟨h61_, ?_⟩
    refine ⟨h62_, ?_⟩
    refine ⟨h63_, ?_⟩
    refine ⟨h64_, ?_⟩
    refine ⟨h65_, ?_⟩
    refine ⟨h66_, ?_⟩
    refine ⟨h67_, ?_⟩
    refine ⟨h68_, ?_⟩
    refine ⟨h69_, ?_⟩
    refine ⟨?_, ?_⟩
    · skip
      intro h77_
      by_cases c78_ : 0 < S 1021 0
      · skip
        have e79_ : (if 0 < S 1021 0 then 10 else 30 * (20 - S 1023 0) + (23 - 0) : Int) = 10 := if_pos c78_
        have e80_ : (if 0 < S 1021 0 then 11 else 30 * (20 - S 1023 0) + 24 : Int) = 11 := if_pos c78_
        exact (la_conditional_9 h70_ h76_ e79_ e80_)
      · skip
        have e81_ : (if 0 < S 1021 0 then 10 else 30 * (20 - S 1023 0) + (23 - 0) : Int) = 30 * (20 - S 1023 0) + (23 - 0) := if_neg c78_
        have e82_ : (if 0 < S 1021 0 then 11 else 30 * (20 - S 1023 0) + 24 : Int) = 30 * (20 - S 1023 0) + 24 := if_neg c78_
        exact (la_conditional_10 h70_ h76_ e81_ e82_)
    refine ⟨h71_, ?_⟩
    refine ⟨h72_, ?_⟩
    refine ⟨?_, ?_⟩
    · skip
      intro h83_
      have e84_ : (if 0 < S 1021 0 then 10 else 30 * (20 - S 1023 0) + (23 - 0) : Int) = 10 := if_pos (la_conditional_11 h76_ h83_)
      have e85_ : (if 0 < S 1021 0 then 11 else 30 * (20 - S 1023 0) + 24 : Int) = 11 := if_pos (la_conditional_11 h76_ h83_)
      refine ⟨(la_conditional_12 h76_ h83_), ?_⟩
      refine ⟨?_, ?_⟩
      · skip
        exact (la_conditional_13 h76_ h83_)
      refine ⟨?_, ?_⟩
      · skip
        exact ((la_conditional_14 h76_ h83_)).elim
      intro h86_
      exact (la_conditional_15 h76_ h83_)
    intro h87_
    have e88_ : (if 0 < S 1021 0 then 10 else 30 * (20 - S 1023 0) + (23 - 0) : Int) = 10 := if_pos h87_
    have e89_ : (if 0 < S 1021 0 then 11 else 30 * (20 - S 1023 0) + 24 : Int) = 11 := if_pos h87_
    refine ⟨(la_conditional_16 h49_ h74_ h87_), ?_⟩
    exact (la_conditional_17 h68_ h74_ h87_)
  intro h90_
  have e91_ : (if 0 < S 1021 0 then 10 else 30 * (20 - S 1023 0) + (23 - 0) : Int) = 30 * (20 - S 1023 0) + (23 - 0) := if_neg (la_conditional_18 h52_ h90_)
  have e92_ : (if 0 < S 1021 0 then 11 else 30 * (20 - S 1023 0) + 24 : Int) = 30 * (20 - S 1023 0) + 24 := if_neg (la_conditional_18 h52_ h90_)
  obtain ⟨h93_, ⟨h94_, ⟨h95_, h96_⟩⟩⟩ := (h73_ (la_conditional_19 h51_ h90_))
  refine ⟨(la_conditional_20 h4_ (sm_TK_t h6_).2 h50_ h93_), ?_⟩
  refine ⟨(la_conditional_21 h7_ h26_ h52_ h90_ e92_), ?_⟩
  refine ⟨?_, ?_⟩
  · skip
    rintro ⟨h97_, h98_⟩
    intro h99_
    refine ⟨(la_conditional_22 h4_ (sm_TK_t h6_).2 h50_ h93_), ?_⟩
    refine ⟨?_, ?_⟩
    · skip
      refine ⟨(la_conditional_23 h4_ h93_), ?_⟩
      refine ⟨?_, ?_⟩
      · skip
        exact (la_conditional_25 h97_ (sm_TK_go h6_ (g5 1020 0) (la_conditional_24 h4_ h93_) h50_))
      refine ⟨h6_, ?_⟩
      refine ⟨h51_, ?_⟩
      refine ⟨h8_, ?_⟩
      refine ⟨h9_, ?_⟩
      refine ⟨(la_conditional_26 h10_ h53_), ?_⟩
      refine ⟨h54_, ?_⟩
      refine ⟨h55_, ?_⟩
      refine ⟨h57_, ?_⟩
      refine ⟨h60_, ?_⟩
      refine ⟨h61_, ?_⟩
      refine ⟨(la_conditional_27 h16_ h63_), ?_⟩
      refine ⟨(la_conditional_28 h17_ h63_ h66_), ?_⟩
      refine ⟨(la_conditional_29 h67_), ?_⟩
      refine ⟨(la_conditional_27 h19_ h62_), ?_⟩
      refine ⟨(la_conditional_30 h20_ h62_), ?_⟩
      refine ⟨(la_conditional_27 h21_ h64_), ?_⟩
      refine ⟨(la_conditional_31 h22_ h64_), ?_⟩
      refine ⟨(la_conditional_27 h23_ h65_), ?_⟩
      refine ⟨(la_conditional_31 h24_ h65_), ?_⟩
      refine ⟨(la_conditional_24 (sm_ex_e h95_).1 (sm_ex_e h95_).2.1), ?_⟩
      refine ⟨(la_conditional_32 h7_ h26_ h52_ h62_ h64_ h65_ h69_), ?_⟩
      exact (la_conditional_19 h51_ h90_)
    refine ⟨(la_conditional_33 h7_ h26_ h27_ h51_ h52_ h69_ h90_ e92_), ?_⟩
    refine ⟨(la_conditional_34 h7_ h26_ h51_ h52_ h69_ h90_ e92_), ?_⟩
    intro r25
    intro h100_
    intro g21
    rintro ⟨h101_, ⟨h102_, ⟨h103_, ⟨h104_, ⟨h105_, ⟨h106_, ⟨h107_, ⟨h108_, ⟨h109_, ⟨h110_, ⟨h111_, ⟨h112_, ⟨h113_, ⟨h114_, ⟨h115_, ⟨h116_, ⟨h117_, ⟨h118_, ⟨h119_, ⟨h120_, ⟨h121_, ⟨h122_, ⟨h123_, ⟨h124_, h125_⟩⟩⟩⟩⟩⟩⟩⟩⟩⟩⟩⟩⟩⟩⟩⟩⟩⟩⟩⟩⟩⟩⟩⟩
    refine ⟨⟨(la_conditional_35 h4_ h93_ h101_), ⟨h102_, ⟨h6_, h103_⟩⟩⟩, ?_⟩
    refine ⟨(la_conditional_36 h7_ h26_ h52_ h90_ e92_), ?_⟩
    intro r33
    intro h126_
    intro g29
    intro h127_
    refine ⟨?_, ?_⟩
    · skip
      intro h128_
      obtain ⟨h129_, h130_⟩ := (h125_ (la_conditional_37 h103_ h127_ h128_))
      refine ⟨⟨(la_conditional_38 h4_ h93_ h127_ h130_), ⟨(la_conditional_39 h102_ h127_), ⟨h6_, ⟨(la_conditional_40 h127_), ⟨h8_, ⟨h9_, ⟨(la_conditional_41 h10_ h53_ h105_), ⟨h106_, ⟨h107_, ⟨h109_, ⟨h112_, ⟨h113_, (la_conditional_42 h7_ h16_ h17_ h19_ h20_ h21_ h22_ h23_ h24_ h26_ h51_ h52_ h62_ h63_ h64_ h65_ h66_ h69_ h90_ h103_ h114_ h115_ h116_ h117_ h118_ h119_ h121_ h127_ h128_ (sm_ex_e h129_).1 (sm_ex_e h129_).2.1)⟩⟩⟩⟩⟩⟩⟩⟩⟩⟩⟩⟩, ?_⟩
      refine ⟨(la_conditional_43 h7_ h26_ h27_ h51_ h52_ h69_ h90_ e92_ h103_ h121_ h127_ h128_), ?_⟩
      refine ⟨(la_conditional_44 h7_ h26_ h51_ h52_ h69_ h90_ e92_ h103_ h121_ h127_ h128_), ?_⟩
      intro r42
      intro h131_
      intro g38
      rintro ⟨h132_, ⟨h133_, ⟨h134_, ⟨h135_, ⟨h136_, ⟨h137_, ⟨h138_, ⟨h139_, ⟨h140_, ⟨h141_, ⟨h142_, ⟨h143_, ⟨h144_, ⟨h145_, ⟨h146_, ⟨h147_, ⟨h148_, ⟨h149_, ⟨h150_, ⟨h151_, ⟨h152_, ⟨h153_, ⟨h154_, ⟨h155_, h156_⟩⟩⟩⟩⟩⟩⟩⟩⟩⟩⟩⟩⟩⟩⟩⟩⟩⟩⟩⟩⟩⟩⟩⟩
      refine ⟨(la_conditional_45 (sm_TK_t h6_).2 h7_ h26_ h51_ h52_ h69_ h90_ h103_ h121_ h127_ h128_ (sm_ex_e h129_).1 (sm_ex_e h129_).2.1 h133_ h134_ h151_ h152_ h153_), ?_⟩
      intro r49
      intro h157_
      intro g45
      rintro ⟨h158_, ⟨h159_, ⟨h160_, ⟨h161_, ⟨h162_, ⟨h163_, ⟨h164_, ⟨h165_, ⟨h166_, ⟨h167_, ⟨h168_, ⟨h169_, h170_⟩⟩⟩⟩⟩⟩⟩⟩⟩⟩⟩⟩
      obtain ⟨h171_, h172_⟩ := (h169_ h140_)
      refine ⟨?_, ?_⟩
      · skip
        have h173_ := (h168_ r49)
        by_cases c174_ : g38 1021 0 = 0
        · skip
          have e175_ : (if g38 1021 0 = 0 then 1 else 0 : Int) = 1 := if_pos c174_
          obtain ⟨h176_, h177_⟩ := (h156_ c174_)
          exact (la_conditional_47 e175_)
        · skip
          have e178_ : (if g38 1021 0 = 0 then 1 else 0 : Int) = 0 := if_neg c174_
          exact (la_conditional_48 e178_)
      refine ⟨(la_conditional_49 h7_ h26_ h52_ h90_), ?_⟩
      refine ⟨(la_conditional_50 h7_ h26_ h52_ h90_ e91_), ?_⟩
      intro h179_
      have h180_ := (h179_ h171_)
      have h181_ := (h180_ h172_)
      have h182_ := (h181_ (la_conditional_51 (sm_ex_e h129_).1 (sm_ex_e h129_).2.1 h151_ h158_))
      have h183_ := (h182_ (la_conditional_52 h158_ h159_))
      have h184_ := (h183_ h166_)
      have h188_ : g38 1021 0 = 0 → g45 11 r49 = 14 ∧ sm_ex (g38 1100001) (g38 1100002) (g38 1100005) (g45 1024 0) 1 (g45 12 (5 * r49)) (17 * (20 - S 1023 0) + 15) (20 - S 1023 0) ∧ sm_ex (g38 1100001) (g38 1100002) (g38 1100005) (g45 1024 0) 1 (g45 12 (5 * r49 + 1)) (17 * (20 - S 1023 0) + 15) (20 - S 1023 0) ∧ sm_ex (g38 1100001) (g38 1100002) (g38 1100005) (g45 1024 0) 1 (g45 12 (5 * r49 + 2)) (17 * (20 - S 1023 0) + 15) (20 - S 1023 0) := by
        intro h185_
        obtain ⟨h186_, h187_⟩ := (h156_ h185_)
        refine ⟨h160_, ?_⟩
        refine ⟨(sm_ex_eq h161_ (sm_ex_N (sm_ex_w (sm_ex_ps (sm_PS_tr (sm_PS_le h110_ (Int.le_refl _)) (sm_PS_le h141_ h120_) (Int.le_refl _)) h95_ (by decide)) la_conditional_53 (Int.le_refl _)) (la_conditional_54 h120_ h151_ h159_))), ?_⟩
        refine ⟨(sm_ex_eq h162_ (sm_ex_N (sm_ex_w (sm_ex_ps (sm_PS_le h141_ (Int.le_refl _)) h129_ (by decide)) (la_conditional_55 h51_ h69_ h90_) (la_conditional_56 h51_ h69_ h90_)) (la_conditional_57 h151_ h159_))), ?_⟩
        exact (sm_ex_eq h163_ (sm_ex_N (sm_ex_w h186_ (la_conditional_58 h51_ h69_ h90_ h103_ h121_ h127_ h128_) (la_conditional_59 h51_ h69_ h90_ h103_ h121_ h127_ h128_)) (la_conditional_60 h159_)))
      obtain ⟨h189_, h190_⟩ := (h184_ h188_)
      refine ⟨(la_conditional_61 h93_ h127_ h130_ h132_), ?_⟩
      refine ⟨h133_, ?_⟩
      refine ⟨h134_, ?_⟩
      refine ⟨(la_conditional_62 h52_ h90_), ?_⟩
      refine ⟨(la_conditional_63 h53_ h105_ h136_), ?_⟩
      refine ⟨h137_, ?_⟩
      refine ⟨h138_, ?_⟩
      refine ⟨(la_conditional_64 h56_ h108_ h139_), ?_⟩
      refine ⟨h189_, ?_⟩
      refine ⟨(sm_PS_tr (sm_PS_le h58_ (Int.le_refl _)) (sm_PS_tr (sm_PS_le h110_ h68_) (sm_PS_tr (sm_PS_le h141_ (la_conditional_66 h68_ h120_)) (sm_PS_tr (sm_PS_le h170_ (la_conditional_63 h68_ h120_ h151_)) (sm_PS_le h190_ (la_conditional_65 h68_ h120_ h151_ h159_)) (Int.le_refl _)) (Int.le_refl _)) (Int.le_refl _)) (Int.le_refl _)), ?_⟩
      refine ⟨(sm_KL_tr (sm_KL_le h59_ (Int.le_refl _)) (sm_KL_tr (sm_KL_le h111_ (la_conditional_68 h62_)) (sm_KL_le h142_ (la_conditional_67 h62_ h114_)) (Int.le_refl _)) (Int.le_refl _)), ?_⟩
      refine ⟨h143_, ?_⟩
      refine ⟨h144_, ?_⟩
      refine ⟨(la_conditional_69 h62_ h114_ h145_), ?_⟩
      refine ⟨(la_conditional_69 h63_ h115_ h146_), ?_⟩
      refine ⟨(la_conditional_69 h64_ h116_ h147_), ?_⟩
      refine ⟨(la_conditional_69 h65_ h117_ h148_), ?_⟩
      refine ⟨(la_conditional_63 h66_ h118_ h149_), ?_⟩
      refine ⟨h150_, ?_⟩
      refine ⟨(la_conditional_65 h68_ h120_ h151_ h159_), ?_⟩
      refine ⟨(la_conditional_70 h51_ h69_ h90_ h103_ h121_ h127_ h135_ h152_ h159_), ?_⟩
      refine ⟨(la_conditional_71 h51_ h69_ h90_ e92_ h103_ h121_ h127_ h128_ h153_ h159_), ?_⟩
      refine ⟨(la_conditional_72 (sm_ex_e h129_).1 (sm_ex_e h129_).2.1 h151_ h158_), ?_⟩
      refine ⟨(la_conditional_73 (sm_TK_t h6_).2 h7_ h26_ h51_ h52_ h69_ h90_ h103_ h121_ h127_ h128_ h133_ h134_ h152_ h153_ h158_), ?_⟩
      refine ⟨?_, ?_⟩
      · skip
        intro h191_
        obtain ⟨h192_, h193_⟩ := (h156_ h191_)
        refine ⟨(la_conditional_74 h93_ h127_ h130_ h193_), ?_⟩
        refine ⟨h94_, ?_⟩
        refine ⟨(sm_ex_if (la_conditional_75 h158_ (sm_ex_e h192_).1 (sm_ex_e h192_).2.1) (la_conditional_52 h158_ h159_) (if_pos h191_) la_conditional_76 la_conditional_77), ?_⟩
        intro h194_
        have h195_ := (h168_ r49)
        have e196_ : (if r49 = r49 then 17 * (20 - S 1023 0) + 17 else g38 1100002 r49 : Int) = 17 * (20 - S 1023 0) + 17 := if_pos la_conditional_86
        exact ((la_conditional_87 h160_ h194_)).elim
      intro h197_
      refine ⟨(la_conditional_88 h52_ h90_ h197_), ?_⟩
      exact (la_conditional_89 h52_ h68_ h90_ h120_ h151_ h159_ h197_)
    intro h198_
    refine ⟨(la_conditional_90 h93_ h101_ h127_), ?_⟩
    refine ⟨(la_conditional_91 h102_ h127_ h198_), ?_⟩
    refine ⟨(la_conditional_40 h127_), ?_⟩
    refine ⟨(la_conditional_62 h52_ h90_), ?_⟩
    refine ⟨(la_conditional_66 h53_ h105_), ?_⟩
    refine ⟨h106_, ?_⟩
    refine ⟨h107_, ?_⟩
    refine ⟨(la_conditional_92 h56_ h108_), ?_⟩
    refine ⟨h109_, ?_⟩
    refine ⟨(sm_PS_tr (sm_PS_le h58_ (Int.le_refl _)) (sm_PS_le h110_ h68_) (Int.le_refl _)), ?_⟩
    refine ⟨(sm_KL_tr (sm_KL_le h59_ (Int.le_refl _)) (sm_KL_le h111_ (la_conditional_68 h62_)) (Int.le_refl _)), ?_⟩
    refine ⟨h112_, ?_⟩
    refine ⟨h113_, ?_⟩
    refine ⟨(la_conditional_93 h62_ h114_), ?_⟩
    refine ⟨(la_conditional_93 h63_ h115_), ?_⟩
    refine ⟨(la_conditional_93 h64_ h116_), ?_⟩
    refine ⟨(la_conditional_93 h65_ h117_), ?_⟩
    refine ⟨(la_conditional_66 h66_ h118_), ?_⟩
    refine ⟨(la_conditional_94 h119_ h127_), ?_⟩
    refine ⟨(la_conditional_66 h68_ h120_), ?_⟩
    refine ⟨(la_conditional_95 h51_ h69_ h90_ h103_ h121_ h127_ h198_), ?_⟩
    refine ⟨(la_conditional_96 h7_ h26_ h51_ h52_ h69_ h90_ e92_ h103_ h121_ h122_ h127_), ?_⟩
    refine ⟨la_conditional_97, ?_⟩
    refine ⟨la_conditional_98, ?_⟩
    refine ⟨?_, ?_⟩
    · skip
      intro h199_
      obtain ⟨h200_, h201_⟩ := (h125_ (la_conditional_99 h103_ h127_ h199_))
      refine ⟨(la_conditional_100 h93_ h127_ h201_), ?_⟩
      refine ⟨h94_, ?_⟩
      refine ⟨(sm_ex_eq (la_conditional_101 h127_ h198_ h199_ (sm_ex_e h200_).1) (sm_ex_w h200_ (la_conditional_102 h51_ h69_ h90_) (la_conditional_56 h51_ h69_ h90_))), ?_⟩
      intro h202_
      exact (la_conditional_103 h127_ h198_ h199_)
    intro h203_
    refine ⟨(la_conditional_88 h52_ h90_ h203_), ?_⟩
    exact (la_conditional_104 h52_ h68_ h90_ h120_ h203_)
  intro h204_
  refine ⟨h49_, ?_⟩
  refine ⟨h50_, ?_⟩
  refine ⟨h51_, ?_⟩
  refine ⟨h52_, ?_⟩
  refine ⟨h53_, ?_⟩
  refine ⟨h54_, ?_⟩
  refine ⟨h55_, ?_⟩
  refine ⟨h56_, ?_⟩
  refine ⟨h57_, ?_⟩
  refine ⟨h58_, ?_⟩
  refine ⟨h59_, ?_⟩
  refine ⟨h60_, ?_⟩
  refine ⟨h61_, ?_⟩
  refine ⟨h62_, ?_⟩
  refine ⟨h63_, ?_⟩
  refine ⟨h64_, ?_⟩
  refine ⟨h65_, ?_⟩
  refine ⟨h66_, ?_⟩
  refine ⟨h67_, ?_⟩
  refine ⟨h68_, ?_⟩
  refine ⟨h69_, ?_⟩
  refine ⟨(la_conditional_105 h90_), ?_⟩
  refine ⟨h71_, ?_⟩
  refine ⟨h72_, ?_⟩
  refine ⟨?_, ?_⟩
  · skip
    intro h205_
    refine ⟨h93_, ?_⟩
    refine ⟨h94_, ?_⟩
    refine ⟨(sm_ex_w h95_ la_conditional_106 (Int.le_refl _)), ?_⟩
    intro h206_
    exact (la_conditional_107 h70_ h96_ h206_)
  intro h207_
  refine ⟨(la_conditional_108 h52_ h90_ h93_ h207_), ?_⟩
  exact (la_conditional_109 h52_ h68_ h90_ h207_)
set_option maxRecDepth 8000 in
set_option maxHeartbeats 2000000 in
theorem s_conditional (d : Int) (h0 : 0 ≤ d) (IH : ∀ d' : Int, 0 ≤ d' → d' < d → P_P d') : T_conditional d := by
  intro p1 S hok hp1 hpre hd
  have h := f_conditional d p1 S hok hp1 hpre hd
  have hM := sm_h48
  show sv_T sm_XS sm_cs sm_L sm_sh ((if 0 < (S 1021 0) then 11 else 30 * (20 - (S 1023 0)) + 24)).toNat (q_conditional p1 S) 48 0 [(0, .ref 0), (1, sv_I p1)] [] S
  refine sv_aload_n hM dX12_conditional_0 rfl rfl ?_
  refine sv_iconst (d := (0 : Int)) hM dX12_conditional_1 rfl rfl ?_
  refine sv_iload_n hM dX12_conditional_2 rfl rfl ?_
  obtain ⟨o1, h⟩ := h
  obtain ⟨o2, h⟩ := h
  obtain ⟨o3, h⟩ := h
  obtain ⟨o4, h⟩ := h
  refine sv_callV hM dX12_conditional_3 sm_iv_469 (by decide) (sm_a0 _) rfl rfl (Nat.le_of_ble_eq_true rfl) sm_h51 (Nat.le_of_ble_eq_true rfl) (Nat.le_of_ble_eq_true rfl) (F' := (((if 0 < (S 1021 0) then 10 else 30 * (20 - (S 1023 0)) + (23 - (0 : Int))))).toNat) (sv_Fe o4) rfl ((IH ((if 0 < (S 1021 0) then 10 else 30 * (20 - (S 1023 0)) + (23 - (0 : Int)))) o3.1 o3.2).2.2.2.2.1 (0 : Int) p1 S hok (⟨by decide, by decide⟩ : sv_R (0 : Int)) o1 o2 rfl) (fun v S1 hq => ?_)
  obtain ⟨r9, rfl, hr9, ok6, md7, hp8⟩ := hq
  obtain ⟨g5, rfl⟩ : ∃ g, S1 = sv_sts S [1020, 1021, 1022, 1023, 5, 1011, 3, 4, 1007, 1009, 11, 12, 13, 14, 1024, 15, 16, 1031, 1032, 17, 18, 19, 20, 21, 22, 23, 24, 25, 1042, 1043, 1044, 1045, 1100001, 1100002, 1100005, 1100003, 1100004] g := ⟨_, md7.eq⟩
  show sv_T sm_XS sm_cs sm_L sm_sh ((if 0 < (S 1021 0) then 11 else 30 * (20 - (S 1023 0)) + 24)).toNat (q_conditional p1 S) 48 6 [(0, .ref 0), (1, sv_I p1)] [sv_I r9] (sv_sts S [1020, 1021, 1022, 1023, 5, 1011, 3, 4, 1007, 1009, 11, 12, 13, 14, 1024, 15, 16, 1031, 1032, 17, 18, 19, 20, 21, 22, 23, 24, 25, 1042, 1043, 1044, 1045, 1100001, 1100002, 1100005, 1100003, 1100004] g5)
  have md10 : sv_mod [1020, 1021, 1022, 1023, 5, 1011, 3, 4, 1007, 1009, 11, 12, 13, 14, 1024, 15, 16, 1031, 1032, 17, 18, 19, 20, 21, 22, 23, 24, 25, 1042, 1043, 1044, 1045, 1100001, 1100002, 1100005, 1100003, 1100004] S (sv_sts S [1020, 1021, 1022, 1023, 5, 1011, 3, 4, 1007, 1009, 11, 12, 13, 14, 1024, 15, 16, 1031, 1032, 17, 18, 19, 20, 21, 22, 23, 24, 25, 1042, 1043, 1044, 1045, 1100001, 1100002, 1100005, 1100003, 1100004] g5) := sv_mod.sts sv_mod.rf (by decide)
  have h := h r9 hr9 g5 hp8
  refine sv_istore_n hM dX12_conditional_6 (by decide) rfl ?_
  show sv_T sm_XS sm_cs sm_L sm_sh ((if 0 < (S 1021 0) then 11 else 30 * (20 - (S 1023 0)) + 24)).toNat (q_conditional p1 S) 48 7 [(0, .ref 0), (1, sv_I p1), (2, sv_I r9)] [] (sv_sts S [1020, 1021, 1022, 1023, 5, 1011, 3, 4, 1007, 1009, 11, 12, 13, 14, 1024, 15, 16, 1031, 1032, 17, 18, 19, 20, 21, 22, 23, 24, 25, 1042, 1043, 1044, 1045, 1100001, 1100002, 1100005, 1100003, 1100004] g5)
  refine sv_aload_n hM dX12_conditional_7 rfl rfl ?_
  have k11 : sv_R (g5 1021 0) := sm_okI ok6 sm_r1021 0
  have h := h k11
  refine sv_getI hM dX12_conditional_8 sm_fl_389 (sm_a0 _) sm_k21 rfl (x := (g5 1021 0)) rfl ?_
  refine sv_cond_gt hM dX12_conditional_11 k11 (t := 23) rfl rfl (fun hc => ?_) (fun hc => ?_)
  · have h := h.1 (hc)
    refine sv_iload_n hM dX12_conditional_23 rfl rfl ?_
    exact sv_iret hM dX12_conditional_24 rfl rfl ⟨r9, rfl, hr9, ok6, md10, h⟩
  · have h := h.2 (hc)
    refine sv_aload_n hM dX12_conditional_14 rfl rfl ?_
    refine sv_bipush (d := (45 : Int)) hM dX12_conditional_15 rfl rfl ?_
    obtain ⟨o12, h⟩ := h
    obtain ⟨o13, h⟩ := h
    refine sv_callV hM dX12_conditional_17 sm_iv_398 (by decide) (sm_a0 _) rfl rfl (Nat.le_of_ble_eq_true rfl) sm_h24 (Nat.le_of_ble_eq_true rfl) (Nat.le_of_ble_eq_true rfl) (F' := 0) (sv_Fn (n := 0) o13) rfl (t_isSign (45 : Int) (sv_sts S [1020, 1021, 1022, 1023, 5, 1011, 3, 4, 1007, 1009, 11, 12, 13, 14, 1024, 15, 16, 1031, 1032, 17, 18, 19, 20, 21, 22, 23, 24, 25, 1042, 1043, 1044, 1045, 1100001, 1100002, 1100005, 1100003, 1100004] g5) ok6 (⟨by decide, by decide⟩ : sv_R (45 : Int)) o12) (fun v S1 hq => ?_)
    obtain ⟨rfl, hS1⟩ := hq
    obtain rfl : (sv_sts S [1020, 1021, 1022, 1023, 5, 1011, 3, 4, 1007, 1009, 11, 12, 13, 14, 1024, 15, 16, 1031, 1032, 17, 18, 19, 20, 21, 22, 23, 24, 25, 1042, 1043, 1044, 1045, 1100001, 1100002, 1100005, 1100003, 1100004] g5) = S1 := hS1.symm
    show sv_T sm_XS sm_cs sm_L sm_sh ((if 0 < (S 1021 0) then 11 else 30 * (20 - (S 1023 0)) + 24)).toNat (q_conditional p1 S) 48 20 [(0, .ref 0), (1, sv_I p1), (2, sv_I r9)] [sv_I (if (S 6 (g5 1020 0)) = 5 ∧ (S 7 (g5 1020 0)) = (45 : Int) then 1 else 0)] (sv_sts S [1020, 1021, 1022, 1023, 5, 1011, 3, 4, 1007, 1009, 11, 12, 13, 14, 1024, 15, 16, 1031, 1032, 17, 18, 19, 20, 21, 22, 23, 24, 25, 1042, 1043, 1044, 1045, 1100001, 1100002, 1100005, 1100003, 1100004] g5)
    refine sv_cond_ne hM dX12_conditional_20 (sv_Rite : sv_R (if (S 6 (g5 1020 0)) = 5 ∧ (S 7 (g5 1020 0)) = (45 : Int) then 1 else 0)) (t := 25) rfl rfl (fun hc => ?_) (fun hc => ?_)
    · have h := h.1 (sv_itep hc)
      refine sv_aload_n hM dX12_conditional_25 rfl rfl ?_
      refine sv_dupA hM dX12_conditional_26 rfl ?_
      have k14 : sv_R (g5 1020 0) := sm_okI ok6 sm_r1020 0
      have h := h k14
      refine sv_getI hM dX12_conditional_27 sm_fl_392 (sm_a0 _) sm_k20 rfl (x := (g5 1020 0)) rfl ?_
      refine sv_iconst (d := (1 : Int)) hM dX12_conditional_30 rfl rfl ?_
      refine sv_iadd hM dX12_conditional_31 rfl ?_
      obtain ⟨o15, h⟩ := h
      refine sv_putI sm_X hM dX12_conditional_32 sm_fp_392 (sm_a0 _) sm_q20 (Or.inl rfl) rfl rfl rfl rfl ?_
      have ok16 : sm_ok (sv_up (sv_sts S [1020, 1021, 1022, 1023, 5, 1011, 3, 4, 1007, 1009, 11, 12, 13, 14, 1024, 15, 16, 1031, 1032, 17, 18, 19, 20, 21, 22, 23, 24, 25, 1042, 1043, 1044, 1045, 1100001, 1100002, 1100005, 1100003, 1100004] g5) 1020 0 ((g5 1020 0) + (1 : Int))) := sm_upI ok6 sm_r1020 o15
      have md17 : sv_mod [1020, 1021, 1022, 1023, 5, 1011, 3, 4, 1007, 1009, 11, 12, 13, 14, 1024, 15, 16, 1031, 1032, 17, 18, 19, 20, 21, 22, 23, 24, 25, 1042, 1043, 1044, 1045, 1100001, 1100002, 1100005, 1100003, 1100004] S (sv_up (sv_sts S [1020, 1021, 1022, 1023, 5, 1011, 3, 4, 1007, 1009, 11, 12, 13, 14, 1024, 15, 16, 1031, 1032, 17, 18, 19, 20, 21, 22, 23, 24, 25, 1042, 1043, 1044, 1045, 1100001, 1100002, 1100005, 1100003, 1100004] g5) 1020 0 ((g5 1020 0) + (1 : Int))) := sv_mod.up md10 (by decide)
      refine sv_aload_n hM dX12_conditional_35 rfl rfl ?_
      refine sv_iload_n hM dX12_conditional_36 rfl rfl ?_
      obtain ⟨o18, h⟩ := h
      obtain ⟨o19, h⟩ := h
      obtain ⟨o20, h⟩ := h
      refine sv_callV hM dX12_conditional_37 sm_iv_466 (by decide) (sm_a0 _) rfl rfl (Nat.le_of_ble_eq_true rfl) sm_h46 (Nat.le_of_ble_eq_true rfl) (Nat.le_of_ble_eq_true rfl) (F' := ((30 * (20 - (g5 1023 0)) + 14)).toNat) (sv_Fe o20) rfl ((IH (30 * (20 - (g5 1023 0)) + 14) o19.1 o19.2).2.1 p1 (sv_up (sv_sts S [1020, 1021, 1022, 1023, 5, 1011, 3, 4, 1007, 1009, 11, 12, 13, 14, 1024, 15, 16, 1031, 1032, 17, 18, 19, 20, 21, 22, 23, 24, 25, 1042, 1043, 1044, 1045, 1100001, 1100002, 1100005, 1100003, 1100004] g5) 1020 0 ((g5 1020 0) + (1 : Int))) ok16 o1 o18 rfl) (fun v S1 hq => ?_)
      obtain ⟨r25, rfl, hr25, ok22, md23, hp24⟩ := hq
      obtain ⟨g21, rfl⟩ : ∃ g, S1 = sv_sts (sv_up (sv_sts S [1020, 1021, 1022, 1023, 5, 1011, 3, 4, 1007, 1009, 11, 12, 13, 14, 1024, 15, 16, 1031, 1032, 17, 18, 19, 20, 21, 22, 23, 24, 25, 1042, 1043, 1044, 1045, 1100001, 1100002, 1100005, 1100003, 1100004] g5) 1020 0 ((g5 1020 0) + (1 : Int))) [1020, 1021, 1022, 1023, 5, 1011, 3, 4, 1007, 1009, 11, 12, 13, 14, 1024, 15, 16, 1031, 1032, 17, 18, 19, 20, 21, 22, 23, 24, 25, 1042, 1043, 1044, 1045, 1100001, 1100002, 1100005, 1100003, 1100004] g := ⟨_, md23.eq⟩
      show sv_T sm_XS sm_cs sm_L sm_sh ((if 0 < (S 1021 0) then 11 else 30 * (20 - (S 1023 0)) + 24)).toNat (q_conditional p1 S) 48 40 [(0, .ref 0), (1, sv_I p1), (2, sv_I r9)] [sv_I r25] (sv_sts (sv_up (sv_sts S [1020, 1021, 1022, 1023, 5, 1011, 3, 4, 1007, 1009, 11, 12, 13, 14, 1024, 15, 16, 1031, 1032, 17, 18, 19, 20, 21, 22, 23, 24, 25, 1042, 1043, 1044, 1045, 1100001, 1100002, 1100005, 1100003, 1100004] g5) 1020 0 ((g5 1020 0) + (1 : Int))) [1020, 1021, 1022, 1023, 5, 1011, 3, 4, 1007, 1009, 11, 12, 13, 14, 1024, 15, 16, 1031, 1032, 17, 18, 19, 20, 21, 22, 23, 24, 25, 1042, 1043, 1044, 1045, 1100001, 1100002, 1100005, 1100003, 1100004] g21)
      have md26 : sv_mod [1020, 1021, 1022, 1023, 5, 1011, 3, 4, 1007, 1009, 11, 12, 13, 14, 1024, 15, 16, 1031, 1032, 17, 18, 19, 20, 21, 22, 23, 24, 25, 1042, 1043, 1044, 1045, 1100001, 1100002, 1100005, 1100003, 1100004] S (sv_sts (sv_up (sv_sts S [1020, 1021, 1022, 1023, 5, 1011, 3, 4, 1007, 1009, 11, 12, 13, 14, 1024, 15, 16, 1031, 1032, 17, 18, 19, 20, 21, 22, 23, 24, 25, 1042, 1043, 1044, 1045, 1100001, 1100002, 1100005, 1100003, 1100004] g5) 1020 0 ((g5 1020 0) + (1 : Int))) [1020, 1021, 1022, 1023, 5, 1011, 3, 4, 1007, 1009, 11, 12, 13, 14, 1024, 15, 16, 1031, 1032, 17, 18, 19, 20, 21, 22, 23, 24, 25, 1042, 1043, 1044, 1045, 1100001, 1100002, 1100005, 1100003, 1100004] g21) := sv_mod.sts md17 (by decide)
      have h := h r25 hr25 g21 hp24
      refine sv_istore_n hM dX12_conditional_40 (by decide) rfl ?_
      show sv_T sm_XS sm_cs sm_L sm_sh ((if 0 < (S 1021 0) then 11 else 30 * (20 - (S 1023 0)) + 24)).toNat (q_conditional p1 S) 48 41 [(0, .ref 0), (1, sv_I p1), (2, sv_I r9), (3, sv_I r25)] [] (sv_sts (sv_up (sv_sts S [1020, 1021, 1022, 1023, 5, 1011, 3, 4, 1007, 1009, 11, 12, 13, 14, 1024, 15, 16, 1031, 1032, 17, 18, 19, 20, 21, 22, 23, 24, 25, 1042, 1043, 1044, 1045, 1100001, 1100002, 1100005, 1100003, 1100004] g5) 1020 0 ((g5 1020 0) + (1 : Int))) [1020, 1021, 1022, 1023, 5, 1011, 3, 4, 1007, 1009, 11, 12, 13, 14, 1024, 15, 16, 1031, 1032, 17, 18, 19, 20, 21, 22, 23, 24, 25, 1042, 1043, 1044, 1045, 1100001, 1100002, 1100005, 1100003, 1100004] g21)
      refine sv_aload_n hM dX12_conditional_41 rfl rfl ?_
      refine sv_bipush (d := (46 : Int)) hM dX12_conditional_42 rfl rfl ?_
      obtain ⟨o27, h⟩ := h
      obtain ⟨o28, h⟩ := h
      refine sv_callV hM dX12_conditional_44 sm_iv_473 (by decide) (sm_a0 _) rfl rfl (Nat.le_of_ble_eq_true rfl) sm_h26 (Nat.le_of_ble_eq_true rfl) (Nat.le_of_ble_eq_true rfl) (F' := 1) (sv_Fn (n := 1) o28) rfl (t_must (46 : Int) (sv_sts (sv_up (sv_sts S [1020, 1021, 1022, 1023, 5, 1011, 3, 4, 1007, 1009, 11, 12, 13, 14, 1024, 15, 16, 1031, 1032, 17, 18, 19, 20, 21, 22, 23, 24, 25, 1042, 1043, 1044, 1045, 1100001, 1100002, 1100005, 1100003, 1100004] g5) 1020 0 ((g5 1020 0) + (1 : Int))) [1020, 1021, 1022, 1023, 5, 1011, 3, 4, 1007, 1009, 11, 12, 13, 14, 1024, 15, 16, 1031, 1032, 17, 18, 19, 20, 21, 22, 23, 24, 25, 1042, 1043, 1044, 1045, 1100001, 1100002, 1100005, 1100003, 1100004] g21) ok22 (⟨by decide, by decide⟩ : sv_R (46 : Int)) o27) (fun v S1 hq => ?_)
      obtain ⟨r33, rfl, hr33, ok30, md31, hp32⟩ := hq
      obtain ⟨g29, rfl⟩ : ∃ g, S1 = sv_sts (sv_sts (sv_up (sv_sts S [1020, 1021, 1022, 1023, 5, 1011, 3, 4, 1007, 1009, 11, 12, 13, 14, 1024, 15, 16, 1031, 1032, 17, 18, 19, 20, 21, 22, 23, 24, 25, 1042, 1043, 1044, 1045, 1100001, 1100002, 1100005, 1100003, 1100004] g5) 1020 0 ((g5 1020 0) + (1 : Int))) [1020, 1021, 1022, 1023, 5, 1011, 3, 4, 1007, 1009, 11, 12, 13, 14, 1024, 15, 16, 1031, 1032, 17, 18, 19, 20, 21, 22, 23, 24, 25, 1042, 1043, 1044, 1045, 1100001, 1100002, 1100005, 1100003, 1100004] g21) [1021, 1022, 1020] g := ⟨_, md31.eq⟩
      show sv_T sm_XS sm_cs sm_L sm_sh ((if 0 < (S 1021 0) then 11 else 30 * (20 - (S 1023 0)) + 24)).toNat (q_conditional p1 S) 48 47 [(0, .ref 0), (1, sv_I p1), (2, sv_I r9), (3, sv_I r25)] [sv_I r33] (sv_sts (sv_sts (sv_up (sv_sts S [1020, 1021, 1022, 1023, 5, 1011, 3, 4, 1007, 1009, 11, 12, 13, 14, 1024, 15, 16, 1031, 1032, 17, 18, 19, 20, 21, 22, 23, 24, 25, 1042, 1043, 1044, 1045, 1100001, 1100002, 1100005, 1100003, 1100004] g5) 1020 0 ((g5 1020 0) + (1 : Int))) [1020, 1021, 1022, 1023, 5, 1011, 3, 4, 1007, 1009, 11, 12, 13, 14, 1024, 15, 16, 1031, 1032, 17, 18, 19, 20, 21, 22, 23, 24, 25, 1042, 1043, 1044, 1045, 1100001, 1100002, 1100005, 1100003, 1100004] g21) [1021, 1022, 1020] g29)
      have md34 : sv_mod [1020, 1021, 1022, 1023, 5, 1011, 3, 4, 1007, 1009, 11, 12, 13, 14, 1024, 15, 16, 1031, 1032, 17, 18, 19, 20, 21, 22, 23, 24, 25, 1042, 1043, 1044, 1045, 1100001, 1100002, 1100005, 1100003, 1100004] S (sv_sts (sv_sts (sv_up (sv_sts S [1020, 1021, 1022, 1023, 5, 1011, 3, 4, 1007, 1009, 11, 12, 13, 14, 1024, 15, 16, 1031, 1032, 17, 18, 19, 20, 21, 22, 23, 24, 25, 1042, 1043, 1044, 1045, 1100001, 1100002, 1100005, 1100003, 1100004] g5) 1020 0 ((g5 1020 0) + (1 : Int))) [1020, 1021, 1022, 1023, 5, 1011, 3, 4, 1007, 1009, 11, 12, 13, 14, 1024, 15, 16, 1031, 1032, 17, 18, 19, 20, 21, 22, 23, 24, 25, 1042, 1043, 1044, 1045, 1100001, 1100002, 1100005, 1100003, 1100004] g21) [1021, 1022, 1020] g29) := sv_mod.sts md26 (by decide)
      have h := h r33 hr33 g29 hp32
      refine sv_cond_ne hM dX12_conditional_47 hr33 (t := 52) rfl rfl (fun hc => ?_) (fun hc => ?_)
      · have h := h.1 (hc)
        refine sv_aload_n hM dX12_conditional_52 rfl rfl ?_
        refine sv_bipush (d := (14 : Int)) hM dX12_conditional_53 rfl rfl ?_
        refine sv_iload_n hM dX12_conditional_55 rfl rfl ?_
        refine sv_iload_n hM dX12_conditional_56 rfl rfl ?_
        refine sv_aload_n hM dX12_conditional_57 rfl rfl ?_
        refine sv_iload_n hM dX12_conditional_58 rfl rfl ?_
        obtain ⟨o35, h⟩ := h
        obtain ⟨o36, h⟩ := h
        obtain ⟨o37, h⟩ := h
        refine sv_callV hM dX12_conditional_59 sm_iv_466 (by decide) (sm_a0 _) rfl rfl (Nat.le_of_ble_eq_true rfl) sm_h46 (Nat.le_of_ble_eq_true rfl) (Nat.le_of_ble_eq_true rfl) (F' := ((30 * (20 - (g21 1023 0)) + 14)).toNat) (sv_Fe o37) rfl ((IH (30 * (20 - (g21 1023 0)) + 14) o36.1 o36.2).2.1 p1 (sv_sts (sv_sts (sv_up (sv_sts S [1020, 1021, 1022, 1023, 5, 1011, 3, 4, 1007, 1009, 11, 12, 13, 14, 1024, 15, 16, 1031, 1032, 17, 18, 19, 20, 21, 22, 23, 24, 25, 1042, 1043, 1044, 1045, 1100001, 1100002, 1100005, 1100003, 1100004] g5) 1020 0 ((g5 1020 0) + (1 : Int))) [1020, 1021, 1022, 1023, 5, 1011, 3, 4, 1007, 1009, 11, 12, 13, 14, 1024, 15, 16, 1031, 1032, 17, 18, 19, 20, 21, 22, 23, 24, 25, 1042, 1043, 1044, 1045, 1100001, 1100002, 1100005, 1100003, 1100004] g21) [1021, 1022, 1020] g29) ok30 o1 o35 rfl) (fun v S1 hq => ?_)
        obtain ⟨r42, rfl, hr42, ok39, md40, hp41⟩ := hq
        obtain ⟨g38, rfl⟩ : ∃ g, S1 = sv_sts (sv_sts (sv_sts (sv_up (sv_sts S [1020, 1021, 1022, 1023, 5, 1011, 3, 4, 1007, 1009, 11, 12, 13, 14, 1024, 15, 16, 1031, 1032, 17, 18, 19, 20, 21, 22, 23, 24, 25, 1042, 1043, 1044, 1045, 1100001, 1100002, 1100005, 1100003, 1100004] g5) 1020 0 ((g5 1020 0) + (1 : Int))) [1020, 1021, 1022, 1023, 5, 1011, 3, 4, 1007, 1009, 11, 12, 13, 14, 1024, 15, 16, 1031, 1032, 17, 18, 19, 20, 21, 22, 23, 24, 25, 1042, 1043, 1044, 1045, 1100001, 1100002, 1100005, 1100003, 1100004] g21) [1021, 1022, 1020] g29) [1020, 1021, 1022, 1023, 5, 1011, 3, 4, 1007, 1009, 11, 12, 13, 14, 1024, 15, 16, 1031, 1032, 17, 18, 19, 20, 21, 22, 23, 24, 25, 1042, 1043, 1044, 1045, 1100001, 1100002, 1100005, 1100003, 1100004] g := ⟨_, md40.eq⟩
        show sv_T sm_XS sm_cs sm_L sm_sh ((if 0 < (S 1021 0) then 11 else 30 * (20 - (S 1023 0)) + 24)).toNat (q_conditional p1 S) 48 62 [(0, .ref 0), (1, sv_I p1), (2, sv_I r9), (3, sv_I r25)] [sv_I r42, sv_I r25, sv_I r9, sv_I (14 : Int), .ref 0] (sv_sts (sv_sts (sv_sts (sv_up (sv_sts S [1020, 1021, 1022, 1023, 5, 1011, 3, 4, 1007, 1009, 11, 12, 13, 14, 1024, 15, 16, 1031, 1032, 17, 18, 19, 20, 21, 22, 23, 24, 25, 1042, 1043, 1044, 1045, 1100001, 1100002, 1100005, 1100003, 1100004] g5) 1020 0 ((g5 1020 0) + (1 : Int))) [1020, 1021, 1022, 1023, 5, 1011, 3, 4, 1007, 1009, 11, 12, 13, 14, 1024, 15, 16, 1031, 1032, 17, 18, 19, 20, 21, 22, 23, 24, 25, 1042, 1043, 1044, 1045, 1100001, 1100002, 1100005, 1100003, 1100004] g21) [1021, 1022, 1020] g29) [1020, 1021, 1022, 1023, 5, 1011, 3, 4, 1007, 1009, 11, 12, 13, 14, 1024, 15, 16, 1031, 1032, 17, 18, 19, 20, 21, 22, 23, 24, 25, 1042, 1043, 1044, 1045, 1100001, 1100002, 1100005, 1100003, 1100004] g38)
        have md43 : sv_mod [1020, 1021, 1022, 1023, 5, 1011, 3, 4, 1007, 1009, 11, 12, 13, 14, 1024, 15, 16, 1031, 1032, 17, 18, 19, 20, 21, 22, 23, 24, 25, 1042, 1043, 1044, 1045, 1100001, 1100002, 1100005, 1100003, 1100004] S (sv_sts (sv_sts (sv_sts (sv_up (sv_sts S [1020, 1021, 1022, 1023, 5, 1011, 3, 4, 1007, 1009, 11, 12, 13, 14, 1024, 15, 16, 1031, 1032, 17, 18, 19, 20, 21, 22, 23, 24, 25, 1042, 1043, 1044, 1045, 1100001, 1100002, 1100005, 1100003, 1100004] g5) 1020 0 ((g5 1020 0) + (1 : Int))) [1020, 1021, 1022, 1023, 5, 1011, 3, 4, 1007, 1009, 11, 12, 13, 14, 1024, 15, 16, 1031, 1032, 17, 18, 19, 20, 21, 22, 23, 24, 25, 1042, 1043, 1044, 1045, 1100001, 1100002, 1100005, 1100003, 1100004] g21) [1021, 1022, 1020] g29) [1020, 1021, 1022, 1023, 5, 1011, 3, 4, 1007, 1009, 11, 12, 13, 14, 1024, 15, 16, 1031, 1032, 17, 18, 19, 20, 21, 22, 23, 24, 25, 1042, 1043, 1044, 1045, 1100001, 1100002, 1100005, 1100003, 1100004] g38) := sv_mod.sts md34 (by decide)
        have h := h r42 hr42 g38 hp41
        obtain ⟨o44, h⟩ := h
        refine sv_callV hM dX12_conditional_62 sm_iv_446 (by decide) (sm_a0 _) rfl rfl (Nat.le_of_ble_eq_true rfl) sm_h33 (Nat.le_of_ble_eq_true rfl) (Nat.le_of_ble_eq_true rfl) (F' := 0) (sv_Fn (n := 0) o13) rfl (t_node (14 : Int) r9 r25 r42 (sv_sts (sv_sts (sv_sts (sv_up (sv_sts S [1020, 1021, 1022, 1023, 5, 1011, 3, 4, 1007, 1009, 11, 12, 13, 14, 1024, 15, 16, 1031, 1032, 17, 18, 19, 20, 21, 22, 23, 24, 25, 1042, 1043, 1044, 1045, 1100001, 1100002, 1100005, 1100003, 1100004] g5) 1020 0 ((g5 1020 0) + (1 : Int))) [1020, 1021, 1022, 1023, 5, 1011, 3, 4, 1007, 1009, 11, 12, 13, 14, 1024, 15, 16, 1031, 1032, 17, 18, 19, 20, 21, 22, 23, 24, 25, 1042, 1043, 1044, 1045, 1100001, 1100002, 1100005, 1100003, 1100004] g21) [1021, 1022, 1020] g29) [1020, 1021, 1022, 1023, 5, 1011, 3, 4, 1007, 1009, 11, 12, 13, 14, 1024, 15, 16, 1031, 1032, 17, 18, 19, 20, 21, 22, 23, 24, 25, 1042, 1043, 1044, 1045, 1100001, 1100002, 1100005, 1100003, 1100004] g38) ok39 (⟨by decide, by decide⟩ : sv_R (14 : Int)) hr9 hr25 hr42 o44) (fun v S1 hq => ?_)
        obtain ⟨r49, rfl, hr49, ok46, md47, hp48⟩ := hq
        obtain ⟨g45, rfl⟩ : ∃ g, S1 = sv_sts (sv_sts (sv_sts (sv_sts (sv_up (sv_sts S [1020, 1021, 1022, 1023, 5, 1011, 3, 4, 1007, 1009, 11, 12, 13, 14, 1024, 15, 16, 1031, 1032, 17, 18, 19, 20, 21, 22, 23, 24, 25, 1042, 1043, 1044, 1045, 1100001, 1100002, 1100005, 1100003, 1100004] g5) 1020 0 ((g5 1020 0) + (1 : Int))) [1020, 1021, 1022, 1023, 5, 1011, 3, 4, 1007, 1009, 11, 12, 13, 14, 1024, 15, 16, 1031, 1032, 17, 18, 19, 20, 21, 22, 23, 24, 25, 1042, 1043, 1044, 1045, 1100001, 1100002, 1100005, 1100003, 1100004] g21) [1021, 1022, 1020] g29) [1020, 1021, 1022, 1023, 5, 1011, 3, 4, 1007, 1009, 11, 12, 13, 14, 1024, 15, 16, 1031, 1032, 17, 18, 19, 20, 21, 22, 23, 24, 25, 1042, 1043, 1044, 1045, 1100001, 1100002, 1100005, 1100003, 1100004] g38) [1024, 11, 12, 13, 14] g := ⟨_, md47.eq⟩
        show sv_T sm_XS sm_cs sm_L sm_sh ((if 0 < (S 1021 0) then 11 else 30 * (20 - (S 1023 0)) + 24)).toNat (q_conditional p1 S) 48 65 [(0, .ref 0), (1, sv_I p1), (2, sv_I r9), (3, sv_I r25)] [sv_I r49] (sv_sts (sv_sts (sv_sts (sv_sts (sv_up (sv_sts S [1020, 1021, 1022, 1023, 5, 1011, 3, 4, 1007, 1009, 11, 12, 13, 14, 1024, 15, 16, 1031, 1032, 17, 18, 19, 20, 21, 22, 23, 24, 25, 1042, 1043, 1044, 1045, 1100001, 1100002, 1100005, 1100003, 1100004] g5) 1020 0 ((g5 1020 0) + (1 : Int))) [1020, 1021, 1022, 1023, 5, 1011, 3, 4, 1007, 1009, 11, 12, 13, 14, 1024, 15, 16, 1031, 1032, 17, 18, 19, 20, 21, 22, 23, 24, 25, 1042, 1043, 1044, 1045, 1100001, 1100002, 1100005, 1100003, 1100004] g21) [1021, 1022, 1020] g29) [1020, 1021, 1022, 1023, 5, 1011, 3, 4, 1007, 1009, 11, 12, 13, 14, 1024, 15, 16, 1031, 1032, 17, 18, 19, 20, 21, 22, 23, 24, 25, 1042, 1043, 1044, 1045, 1100001, 1100002, 1100005, 1100003, 1100004] g38) [1024, 11, 12, 13, 14] g45)
        have md50 : sv_mod [1020, 1021, 1022, 1023, 5, 1011, 3, 4, 1007, 1009, 11, 12, 13, 14, 1024, 15, 16, 1031, 1032, 17, 18, 19, 20, 21, 22, 23, 24, 25, 1042, 1043, 1044, 1045, 1100001, 1100002, 1100005, 1100003, 1100004] S (sv_sts (sv_sts (sv_sts (sv_sts (sv_up (sv_sts S [1020, 1021, 1022, 1023, 5, 1011, 3, 4, 1007, 1009, 11, 12, 13, 14, 1024, 15, 16, 1031, 1032, 17, 18, 19, 20, 21, 22, 23, 24, 25, 1042, 1043, 1044, 1045, 1100001, 1100002, 1100005, 1100003, 1100004] g5) 1020 0 ((g5 1020 0) + (1 : Int))) [1020, 1021, 1022, 1023, 5, 1011, 3, 4, 1007, 1009, 11, 12, 13, 14, 1024, 15, 16, 1031, 1032, 17, 18, 19, 20, 21, 22, 23, 24, 25, 1042, 1043, 1044, 1045, 1100001, 1100002, 1100005, 1100003, 1100004] g21) [1021, 1022, 1020] g29) [1020, 1021, 1022, 1023, 5, 1011, 3, 4, 1007, 1009, 11, 12, 13, 14, 1024, 15, 16, 1031, 1032, 17, 18, 19, 20, 21, 22, 23, 24, 25, 1042, 1043, 1044, 1045, 1100001, 1100002, 1100005, 1100003, 1100004] g38) [1024, 11, 12, 13, 14] g45) := sv_mod.sts md43 (by decide)
        have h := h r49 hr49 g45 hp48
        obtain ⟨o51, h⟩ := h
        refine sv_ghost sm_X 1100001 r49 ((if (g38 1021 0) = 0 then 1 else 0)) (by decide) ?_
        have ok52 : sm_ok (sv_up (sv_sts (sv_sts (sv_sts (sv_sts (sv_up (sv_sts S [1020, 1021, 1022, 1023, 5, 1011, 3, 4, 1007, 1009, 11, 12, 13, 14, 1024, 15, 16, 1031, 1032, 17, 18, 19, 20, 21, 22, 23, 24, 25, 1042, 1043, 1044, 1045, 1100001, 1100002, 1100005, 1100003, 1100004] g5) 1020 0 ((g5 1020 0) + (1 : Int))) [1020, 1021, 1022, 1023, 5, 1011, 3, 4, 1007, 1009, 11, 12, 13, 14, 1024, 15, 16, 1031, 1032, 17, 18, 19, 20, 21, 22, 23, 24, 25, 1042, 1043, 1044, 1045, 1100001, 1100002, 1100005, 1100003, 1100004] g21) [1021, 1022, 1020] g29) [1020, 1021, 1022, 1023, 5, 1011, 3, 4, 1007, 1009, 11, 12, 13, 14, 1024, 15, 16, 1031, 1032, 17, 18, 19, 20, 21, 22, 23, 24, 25, 1042, 1043, 1044, 1045, 1100001, 1100002, 1100005, 1100003, 1100004] g38) [1024, 11, 12, 13, 14] g45) 1100001 r49 ((if (g38 1021 0) = 0 then 1 else 0))) := sm_upI ok46 sm_r1100001 o51
        have md53 : sv_mod [1020, 1021, 1022, 1023, 5, 1011, 3, 4, 1007, 1009, 11, 12, 13, 14, 1024, 15, 16, 1031, 1032, 17, 18, 19, 20, 21, 22, 23, 24, 25, 1042, 1043, 1044, 1045, 1100001, 1100002, 1100005, 1100003, 1100004] S (sv_up (sv_sts (sv_sts (sv_sts (sv_sts (sv_up (sv_sts S [1020, 1021, 1022, 1023, 5, 1011, 3, 4, 1007, 1009, 11, 12, 13, 14, 1024, 15, 16, 1031, 1032, 17, 18, 19, 20, 21, 22, 23, 24, 25, 1042, 1043, 1044, 1045, 1100001, 1100002, 1100005, 1100003, 1100004] g5) 1020 0 ((g5 1020 0) + (1 : Int))) [1020, 1021, 1022, 1023, 5, 1011, 3, 4, 1007, 1009, 11, 12, 13, 14, 1024, 15, 16, 1031, 1032, 17, 18, 19, 20, 21, 22, 23, 24, 25, 1042, 1043, 1044, 1045, 1100001, 1100002, 1100005, 1100003, 1100004] g21) [1021, 1022, 1020] g29) [1020, 1021, 1022, 1023, 5, 1011, 3, 4, 1007, 1009, 11, 12, 13, 14, 1024, 15, 16, 1031, 1032, 17, 18, 19, 20, 21, 22, 23, 24, 25, 1042, 1043, 1044, 1045, 1100001, 1100002, 1100005, 1100003, 1100004] g38) [1024, 11, 12, 13, 14] g45) 1100001 r49 ((if (g38 1021 0) = 0 then 1 else 0))) := sv_mod.up md50 (by decide)
        obtain ⟨o54, h⟩ := h
        refine sv_ghost sm_X 1100002 r49 ((17 * (20 - (S 1023 0)) + 17)) (by decide) ?_
        have ok55 : sm_ok (sv_up (sv_up (sv_sts (sv_sts (sv_sts (sv_sts (sv_up (sv_sts S [1020, 1021, 1022, 1023, 5, 1011, 3, 4, 1007, 1009, 11, 12, 13, 14, 1024, 15, 16, 1031, 1032, 17, 18, 19, 20, 21, 22, 23, 24, 25, 1042, 1043, 1044, 1045, 1100001, 1100002, 1100005, 1100003, 1100004] g5) 1020 0 ((g5 1020 0) + (1 : Int))) [1020, 1021, 1022, 1023, 5, 1011, 3, 4, 1007, 1009, 11, 12, 13, 14, 1024, 15, 16, 1031, 1032, 17, 18, 19, 20, 21, 22, 23, 24, 25, 1042, 1043, 1044, 1045, 1100001, 1100002, 1100005, 1100003, 1100004] g21) [1021, 1022, 1020] g29) [1020, 1021, 1022, 1023, 5, 1011, 3, 4, 1007, 1009, 11, 12, 13, 14, 1024, 15, 16, 1031, 1032, 17, 18, 19, 20, 21, 22, 23, 24, 25, 1042, 1043, 1044, 1045, 1100001, 1100002, 1100005, 1100003, 1100004] g38) [1024, 11, 12, 13, 14] g45) 1100001 r49 ((if (g38 1021 0) = 0 then 1 else 0))) 1100002 r49 ((17 * (20 - (S 1023 0)) + 17))) := sm_upI ok52 sm_r1100002 o54
        have md56 : sv_mod [1020, 1021, 1022, 1023, 5, 1011, 3, 4, 1007, 1009, 11, 12, 13, 14, 1024, 15, 16, 1031, 1032, 17, 18, 19, 20, 21, 22, 23, 24, 25, 1042, 1043, 1044, 1045, 1100001, 1100002, 1100005, 1100003, 1100004] S (sv_up (sv_up (sv_sts (sv_sts (sv_sts (sv_sts (sv_up (sv_sts S [1020, 1021, 1022, 1023, 5, 1011, 3, 4, 1007, 1009, 11, 12, 13, 14, 1024, 15, 16, 1031, 1032, 17, 18, 19, 20, 21, 22, 23, 24, 25, 1042, 1043, 1044, 1045, 1100001, 1100002, 1100005, 1100003, 1100004] g5) 1020 0 ((g5 1020 0) + (1 : Int))) [1020, 1021, 1022, 1023, 5, 1011, 3, 4, 1007, 1009, 11, 12, 13, 14, 1024, 15, 16, 1031, 1032, 17, 18, 19, 20, 21, 22, 23, 24, 25, 1042, 1043, 1044, 1045, 1100001, 1100002, 1100005, 1100003, 1100004] g21) [1021, 1022, 1020] g29) [1020, 1021, 1022, 1023, 5, 1011, 3, 4, 1007, 1009, 11, 12, 13, 14, 1024, 15, 16, 1031, 1032, 17, 18, 19, 20, 21, 22, 23, 24, 25, 1042, 1043, 1044, 1045, 1100001, 1100002, 1100005, 1100003, 1100004] g38) [1024, 11, 12, 13, 14] g45) 1100001 r49 ((if (g38 1021 0) = 0 then 1 else 0))) 1100002 r49 ((17 * (20 - (S 1023 0)) + 17))) := sv_mod.up md53 (by decide)
        obtain ⟨o57, h⟩ := h
        refine sv_ghost sm_X 1100005 r49 ((20 - (S 1023 0))) (by decide) ?_
        have ok58 : sm_ok (sv_up (sv_up (sv_up (sv_sts (sv_sts (sv_sts (sv_sts (sv_up (sv_sts S [1020, 1021, 1022, 1023, 5, 1011, 3, 4, 1007, 1009, 11, 12, 13, 14, 1024, 15, 16, 1031, 1032, 17, 18, 19, 20, 21, 22, 23, 24, 25, 1042, 1043, 1044, 1045, 1100001, 1100002, 1100005, 1100003, 1100004] g5) 1020 0 ((g5 1020 0) + (1 : Int))) [1020, 1021, 1022, 1023, 5, 1011, 3, 4, 1007, 1009, 11, 12, 13, 14, 1024, 15, 16, 1031, 1032, 17, 18, 19, 20, 21, 22, 23, 24, 25, 1042, 1043, 1044, 1045, 1100001, 1100002, 1100005, 1100003, 1100004] g21) [1021, 1022, 1020] g29) [1020, 1021, 1022, 1023, 5, 1011, 3, 4, 1007, 1009, 11, 12, 13, 14, 1024, 15, 16, 1031, 1032, 17, 18, 19, 20, 21, 22, 23, 24, 25, 1042, 1043, 1044, 1045, 1100001, 1100002, 1100005, 1100003, 1100004] g38) [1024, 11, 12, 13, 14] g45) 1100001 r49 ((if (g38 1021 0) = 0 then 1 else 0))) 1100002 r49 ((17 * (20 - (S 1023 0)) + 17))) 1100005 r49 ((20 - (S 1023 0)))) := sm_upI ok55 sm_r1100005 o57
        have md59 : sv_mod [1020, 1021, 1022, 1023, 5, 1011, 3, 4, 1007, 1009, 11, 12, 13, 14, 1024, 15, 16, 1031, 1032, 17, 18, 19, 20, 21, 22, 23, 24, 25, 1042, 1043, 1044, 1045, 1100001, 1100002, 1100005, 1100003, 1100004] S (sv_up (sv_up (sv_up (sv_sts (sv_sts (sv_sts (sv_sts (sv_up (sv_sts S [1020, 1021, 1022, 1023, 5, 1011, 3, 4, 1007, 1009, 11, 12, 13, 14, 1024, 15, 16, 1031, 1032, 17, 18, 19, 20, 21, 22, 23, 24, 25, 1042, 1043, 1044, 1045, 1100001, 1100002, 1100005, 1100003, 1100004] g5) 1020 0 ((g5 1020 0) + (1 : Int))) [1020, 1021, 1022, 1023, 5, 1011, 3, 4, 1007, 1009, 11, 12, 13, 14, 1024, 15, 16, 1031, 1032, 17, 18, 19, 20, 21, 22, 23, 24, 25, 1042, 1043, 1044, 1045, 1100001, 1100002, 1100005, 1100003, 1100004] g21) [1021, 1022, 1020] g29) [1020, 1021, 1022, 1023, 5, 1011, 3, 4, 1007, 1009, 11, 12, 13, 14, 1024, 15, 16, 1031, 1032, 17, 18, 19, 20, 21, 22, 23, 24, 25, 1042, 1043, 1044, 1045, 1100001, 1100002, 1100005, 1100003, 1100004] g38) [1024, 11, 12, 13, 14] g45) 1100001 r49 ((if (g38 1021 0) = 0 then 1 else 0))) 1100002 r49 ((17 * (20 - (S 1023 0)) + 17))) 1100005 r49 ((20 - (S 1023 0)))) := sv_mod.up md56 (by decide)
        refine sv_ghost sm_X 1100003 r49 (0 : Int) (by decide) ?_
        have ok60 : sm_ok (sv_up (sv_up (sv_up (sv_up (sv_sts (sv_sts (sv_sts (sv_sts (sv_up (sv_sts S [1020, 1021, 1022, 1023, 5, 1011, 3, 4, 1007, 1009, 11, 12, 13, 14, 1024, 15, 16, 1031, 1032, 17, 18, 19, 20, 21, 22, 23, 24, 25, 1042, 1043, 1044, 1045, 1100001, 1100002, 1100005, 1100003, 1100004] g5) 1020 0 ((g5 1020 0) + (1 : Int))) [1020, 1021, 1022, 1023, 5, 1011, 3, 4, 1007, 1009, 11, 12, 13, 14, 1024, 15, 16, 1031, 1032, 17, 18, 19, 20, 21, 22, 23, 24, 25, 1042, 1043, 1044, 1045, 1100001, 1100002, 1100005, 1100003, 1100004] g21) [1021, 1022, 1020] g29) [1020, 1021, 1022, 1023, 5, 1011, 3, 4, 1007, 1009, 11, 12, 13, 14, 1024, 15, 16, 1031, 1032, 17, 18, 19, 20, 21, 22, 23, 24, 25, 1042, 1043, 1044, 1045, 1100001, 1100002, 1100005, 1100003, 1100004] g38) [1024, 11, 12, 13, 14] g45) 1100001 r49 ((if (g38 1021 0) = 0 then 1 else 0))) 1100002 r49 ((17 * (20 - (S 1023 0)) + 17))) 1100005 r49 ((20 - (S 1023 0)))) 1100003 r49 (0 : Int)) := sm_upI ok58 sm_r1100003 (⟨by decide, by decide⟩ : sv_R (0 : Int))
        have md61 : sv_mod [1020, 1021, 1022, 1023, 5, 1011, 3, 4, 1007, 1009, 11, 12, 13, 14, 1024, 15, 16, 1031, 1032, 17, 18, 19, 20, 21, 22, 23, 24, 25, 1042, 1043, 1044, 1045, 1100001, 1100002, 1100005, 1100003, 1100004] S (sv_up (sv_up (sv_up (sv_up (sv_sts (sv_sts (sv_sts (sv_sts (sv_up (sv_sts S [1020, 1021, 1022, 1023, 5, 1011, 3, 4, 1007, 1009, 11, 12, 13, 14, 1024, 15, 16, 1031, 1032, 17, 18, 19, 20, 21, 22, 23, 24, 25, 1042, 1043, 1044, 1045, 1100001, 1100002, 1100005, 1100003, 1100004] g5) 1020 0 ((g5 1020 0) + (1 : Int))) [1020, 1021, 1022, 1023, 5, 1011, 3, 4, 1007, 1009, 11, 12, 13, 14, 1024, 15, 16, 1031, 1032, 17, 18, 19, 20, 21, 22, 23, 24, 25, 1042, 1043, 1044, 1045, 1100001, 1100002, 1100005, 1100003, 1100004] g21) [1021, 1022, 1020] g29) [1020, 1021, 1022, 1023, 5, 1011, 3, 4, 1007, 1009, 11, 12, 13, 14, 1024, 15, 16, 1031, 1032, 17, 18, 19, 20, 21, 22, 23, 24, 25, 1042, 1043, 1044, 1045, 1100001, 1100002, 1100005, 1100003, 1100004] g38) [1024, 11, 12, 13, 14] g45) 1100001 r49 ((if (g38 1021 0) = 0 then 1 else 0))) 1100002 r49 ((17 * (20 - (S 1023 0)) + 17))) 1100005 r49 ((20 - (S 1023 0)))) 1100003 r49 (0 : Int)) := sv_mod.up md59 (by decide)
        refine sv_ghost sm_X 1100004 r49 (0 : Int) (by decide) ?_
        have ok62 : sm_ok (sv_up (sv_up (sv_up (sv_up (sv_up (sv_sts (sv_sts (sv_sts (sv_sts (sv_up (sv_sts S [1020, 1021, 1022, 1023, 5, 1011, 3, 4, 1007, 1009, 11, 12, 13, 14, 1024, 15, 16, 1031, 1032, 17, 18, 19, 20, 21, 22, 23, 24, 25, 1042, 1043, 1044, 1045, 1100001, 1100002, 1100005, 1100003, 1100004] g5) 1020 0 ((g5 1020 0) + (1 : Int))) [1020, 1021, 1022, 1023, 5, 1011, 3, 4, 1007, 1009, 11, 12, 13, 14, 1024, 15, 16, 1031, 1032, 17, 18, 19, 20, 21, 22, 23, 24, 25, 1042, 1043, 1044, 1045, 1100001, 1100002, 1100005, 1100003, 1100004] g21) [1021, 1022, 1020] g29) [1020, 1021, 1022, 1023, 5, 1011, 3, 4, 1007, 1009, 11, 12, 13, 14, 1024, 15, 16, 1031, 1032, 17, 18, 19, 20, 21, 22, 23, 24, 25, 1042, 1043, 1044, 1045, 1100001, 1100002, 1100005, 1100003, 1100004] g38) [1024, 11, 12, 13, 14] g45) 1100001 r49 ((if (g38 1021 0) = 0 then 1 else 0))) 1100002 r49 ((17 * (20 - (S 1023 0)) + 17))) 1100005 r49 ((20 - (S 1023 0)))) 1100003 r49 (0 : Int)) 1100004 r49 (0 : Int)) := sm_upI ok60 sm_r1100004 (⟨by decide, by decide⟩ : sv_R (0 : Int))
        have md63 : sv_mod [1020, 1021, 1022, 1023, 5, 1011, 3, 4, 1007, 1009, 11, 12, 13, 14, 1024, 15, 16, 1031, 1032, 17, 18, 19, 20, 21, 22, 23, 24, 25, 1042, 1043, 1044, 1045, 1100001, 1100002, 1100005, 1100003, 1100004] S (sv_up (sv_up (sv_up (sv_up (sv_up (sv_sts (sv_sts (sv_sts (sv_sts (sv_up (sv_sts S [1020, 1021, 1022, 1023, 5, 1011, 3, 4, 1007, 1009, 11, 12, 13, 14, 1024, 15, 16, 1031, 1032, 17, 18, 19, 20, 21, 22, 23, 24, 25, 1042, 1043, 1044, 1045, 1100001, 1100002, 1100005, 1100003, 1100004] g5) 1020 0 ((g5 1020 0) + (1 : Int))) [1020, 1021, 1022, 1023, 5, 1011, 3, 4, 1007, 1009, 11, 12, 13, 14, 1024, 15, 16, 1031, 1032, 17, 18, 19, 20, 21, 22, 23, 24, 25, 1042, 1043, 1044, 1045, 1100001, 1100002, 1100005, 1100003, 1100004] g21) [1021, 1022, 1020] g29) [1020, 1021, 1022, 1023, 5, 1011, 3, 4, 1007, 1009, 11, 12, 13, 14, 1024, 15, 16, 1031, 1032, 17, 18, 19, 20, 21, 22, 23, 24, 25, 1042, 1043, 1044, 1045, 1100001, 1100002, 1100005, 1100003, 1100004] g38) [1024, 11, 12, 13, 14] g45) 1100001 r49 ((if (g38 1021 0) = 0 then 1 else 0))) 1100002 r49 ((17 * (20 - (S 1023 0)) + 17))) 1100005 r49 ((20 - (S 1023 0)))) 1100003 r49 (0 : Int)) 1100004 r49 (0 : Int)) := sv_mod.up md61 (by decide)
        have k64 : (sm_WF (g45 11) (g45 12) (g45 13) (g38 1100001) (g38 1100002) (g38 1100005) (g38 1100003) (g38 1100004) (g45 1024 0) (g38 1007 0) (g38 1009 0) (g38 1032 0) → (g38 1100001 r49) = 0 → 0 ≤ r49 → r49 < (g45 1024 0) → (g45 13 r49) = -1 → ((g38 1021 0) = 0 → (g45 11 r49) = 14 ∧ sm_ex (g38 1100001) (g38 1100002) (g38 1100005) (g45 1024 0) 1 (g45 12 (5 * r49)) (17 * (20 - (S 1023 0)) + 15) (20 - (S 1023 0)) ∧ sm_ex (g38 1100001) (g38 1100002) (g38 1100005) (g45 1024 0) 1 (g45 12 (5 * r49 + 1)) (17 * (20 - (S 1023 0)) + 15) (20 - (S 1023 0)) ∧ sm_ex (g38 1100001) (g38 1100002) (g38 1100005) (g45 1024 0) 1 (g45 12 (5 * r49 + 2)) (17 * (20 - (S 1023 0)) + 15) (20 - (S 1023 0))) → sm_WF (g45 11) (g45 12) (g45 13) (fun i' : Int => if i' = r49 then ((if (g38 1021 0) = 0 then 1 else 0)) else (g38 1100001) i') (fun i' : Int => if i' = r49 then ((17 * (20 - (S 1023 0)) + 17)) else (g38 1100002) i') (fun i' : Int => if i' = r49 then ((20 - (S 1023 0))) else (g38 1100005) i') (fun i' : Int => if i' = r49 then (0 : Int) else (g38 1100003) i') (fun i' : Int => if i' = r49 then (0 : Int) else (g38 1100004) i') (g45 1024 0) (g38 1007 0) (g38 1009 0) (g38 1032 0) ∧ sm_PS (g45 11) (g38 1100001) (g38 1100002) (g38 1100005) (g38 1100003) (g38 1100004) (g45 11) (fun i' : Int => if i' = r49 then ((if (g38 1021 0) = 0 then 1 else 0)) else (g38 1100001) i') (fun i' : Int => if i' = r49 then ((17 * (20 - (S 1023 0)) + 17)) else (g38 1100002) i') (fun i' : Int => if i' = r49 then ((20 - (S 1023 0))) else (g38 1100005) i') (fun i' : Int => if i' = r49 then (0 : Int) else (g38 1100003) i') (fun i' : Int => if i' = r49 then (0 : Int) else (g38 1100004) i') (g45 1024 0)) := fun a1 a2 a3 a4 a5 a6 => sm_mk1 a1 a2 a3 a4 a5 (if hf : (g38 1021 0) = 0 then (by rw [if_pos hf]; obtain ⟨c, c1, c2, c3⟩ := a6 hf; exact Or.inr ⟨rfl, sm_c1_14 c c1 c2 c3⟩) else (by rw [if_neg hf]; exact Or.inl rfl))
        have h := h k64
        exact sv_iret hM dX12_conditional_65 rfl rfl ⟨r49, rfl, hr49, ok62, md63, h⟩
      · have h := h.2 (hc)
        refine sv_iconst (d := (-1 : Int)) hM dX12_conditional_50 rfl rfl ?_
        exact sv_iret hM dX12_conditional_51 rfl rfl ⟨(-1 : Int), rfl, (⟨by decide, by decide⟩ : sv_R (-1 : Int)), ok30, md34, h⟩
    · have h := h.2 (fun q => hc (by rw [if_pos q]; decide))
      refine sv_iload_n hM dX12_conditional_23 rfl rfl ?_
      exact sv_iret hM dX12_conditional_24 rfl rfl ⟨r9, rfl, hr9, ok6, md10, h⟩
