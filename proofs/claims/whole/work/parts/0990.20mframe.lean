theorem dX12_top_0 : decode cX12_top 0 = .ok (.sipush 400, 3) := by decide +kernel
theorem dX12_top_3 : decode cX12_top 3 = .ok (.aload_n 0, 1) := by decide +kernel
theorem dX12_top_4 : decode cX12_top 4 = .ok (.getfield 872, 3) := by decide +kernel
theorem dX12_top_7 : decode cX12_top 7 = .ok (.iconst 1, 1) := by decide +kernel
theorem dX12_top_8 : decode cX12_top 8 = .ok (.isub, 1) := by decide +kernel
theorem dX12_top_9 : decode cX12_top 9 = .ok (.imul, 1) := by decide +kernel
theorem dX12_top_10 : decode cX12_top 10 = .ok (.aload_n 0, 1) := by decide +kernel
theorem dX12_top_11 : decode cX12_top 11 = .ok (.getfield 185, 3) := by decide +kernel
theorem dX12_top_14 : decode cX12_top 14 = .ok (.aload_n 0, 1) := by decide +kernel
theorem dX12_top_15 : decode cX12_top 15 = .ok (.getfield 872, 3) := by decide +kernel
theorem dX12_top_18 : decode cX12_top 18 = .ok (.iconst 1, 1) := by decide +kernel
theorem dX12_top_19 : decode cX12_top 19 = .ok (.isub, 1) := by decide +kernel
theorem dX12_top_20 : decode cX12_top 20 = .ok (.iaload, 1) := by decide +kernel
theorem dX12_top_21 : decode cX12_top 21 = .ok (.iadd, 1) := by decide +kernel
theorem dX12_top_22 : decode cX12_top 22 = .ok (.ireturn, 1) := by decide +kernel
theorem dX12_sortAt_0 : decode cX12_sortAt 0 = .ok (.aload_n 0, 1) := by decide +kernel
theorem dX12_sortAt_1 : decode cX12_sortAt 1 = .ok (.getfield 200, 3) := by decide +kernel
theorem dX12_sortAt_4 : decode cX12_sortAt 4 = .ok (.aload_n 0, 1) := by decide +kernel
theorem dX12_sortAt_5 : decode cX12_sortAt 5 = .ok (.invokevirtual 879, 3) := by decide +kernel
theorem dX12_sortAt_8 : decode cX12_sortAt 8 = .ok (.iconst 1, 1) := by decide +kernel
theorem dX12_sortAt_9 : decode cX12_sortAt 9 = .ok (.isub, 1) := by decide +kernel
theorem dX12_sortAt_10 : decode cX12_sortAt 10 = .ok (.iload_n 1, 1) := by decide +kernel
theorem dX12_sortAt_11 : decode cX12_sortAt 11 = .ok (.isub, 1) := by decide +kernel
theorem dX12_sortAt_12 : decode cX12_sortAt 12 = .ok (.iaload, 1) := by decide +kernel
theorem dX12_sortAt_13 : decode cX12_sortAt 13 = .ok (.ireturn, 1) := by decide +kernel
theorem dX12_valueAt_0 : decode cX12_valueAt 0 = .ok (.aload_n 0, 1) := by decide +kernel
theorem dX12_valueAt_1 : decode cX12_valueAt 1 = .ok (.getfield 203, 3) := by decide +kernel
theorem dX12_valueAt_4 : decode cX12_valueAt 4 = .ok (.aload_n 0, 1) := by decide +kernel
theorem dX12_valueAt_5 : decode cX12_valueAt 5 = .ok (.invokevirtual 879, 3) := by decide +kernel
theorem dX12_valueAt_8 : decode cX12_valueAt 8 = .ok (.iconst 1, 1) := by decide +kernel
theorem dX12_valueAt_9 : decode cX12_valueAt 9 = .ok (.isub, 1) := by decide +kernel
theorem dX12_valueAt_10 : decode cX12_valueAt 10 = .ok (.iload_n 1, 1) := by decide +kernel
theorem dX12_valueAt_11 : decode cX12_valueAt 11 = .ok (.isub, 1) := by decide +kernel
theorem dX12_valueAt_12 : decode cX12_valueAt 12 = .ok (.iaload, 1) := by decide +kernel
theorem dX12_valueAt_13 : decode cX12_valueAt 13 = .ok (.ireturn, 1) := by decide +kernel
theorem dX12_push_0 : decode cX12_push 0 = .ok (.aload_n 0, 1) := by decide +kernel
theorem dX12_push_1 : decode cX12_push 1 = .ok (.getfield 200, 3) := by decide +kernel
theorem dX12_push_4 : decode cX12_push 4 = .ok (.aload_n 0, 1) := by decide +kernel
theorem dX12_push_5 : decode cX12_push 5 = .ok (.invokevirtual 879, 3) := by decide +kernel
theorem dX12_push_8 : decode cX12_push 8 = .ok (.iload_n 1, 1) := by decide +kernel
theorem dX12_push_9 : decode cX12_push 9 = .ok (.iastore, 1) := by decide +kernel
theorem dX12_push_10 : decode cX12_push 10 = .ok (.aload_n 0, 1) := by decide +kernel
theorem dX12_push_11 : decode cX12_push 11 = .ok (.getfield 203, 3) := by decide +kernel
theorem dX12_push_14 : decode cX12_push 14 = .ok (.aload_n 0, 1) := by decide +kernel
theorem dX12_push_15 : decode cX12_push 15 = .ok (.invokevirtual 879, 3) := by decide +kernel
theorem dX12_push_18 : decode cX12_push 18 = .ok (.iload_n 2, 1) := by decide +kernel
theorem dX12_push_19 : decode cX12_push 19 = .ok (.iastore, 1) := by decide +kernel
theorem dX12_push_20 : decode cX12_push 20 = .ok (.aload_n 0, 1) := by decide +kernel
theorem dX12_push_21 : decode cX12_push 21 = .ok (.getfield 185, 3) := by decide +kernel
theorem dX12_push_24 : decode cX12_push 24 = .ok (.aload_n 0, 1) := by decide +kernel
theorem dX12_push_25 : decode cX12_push 25 = .ok (.getfield 872, 3) := by decide +kernel
theorem dX12_push_28 : decode cX12_push 28 = .ok (.iconst 1, 1) := by decide +kernel
theorem dX12_push_29 : decode cX12_push 29 = .ok (.isub, 1) := by decide +kernel
theorem dX12_push_30 : decode cX12_push 30 = .ok (.dup2, 1) := by decide +kernel
theorem dX12_push_31 : decode cX12_push 31 = .ok (.iaload, 1) := by decide +kernel
theorem dX12_push_32 : decode cX12_push 32 = .ok (.iconst 1, 1) := by decide +kernel
theorem dX12_push_33 : decode cX12_push 33 = .ok (.iadd, 1) := by decide +kernel
theorem dX12_push_34 : decode cX12_push 34 = .ok (.iastore, 1) := by decide +kernel
theorem dX12_push_35 : decode cX12_push 35 = .ok (.return_, 1) := by decide +kernel
theorem dX12_drop_0 : decode cX12_drop 0 = .ok (.aload_n 0, 1) := by decide +kernel
theorem dX12_drop_1 : decode cX12_drop 1 = .ok (.getfield 185, 3) := by decide +kernel
theorem dX12_drop_4 : decode cX12_drop 4 = .ok (.aload_n 0, 1) := by decide +kernel
theorem dX12_drop_5 : decode cX12_drop 5 = .ok (.getfield 872, 3) := by decide +kernel
theorem dX12_drop_8 : decode cX12_drop 8 = .ok (.iconst 1, 1) := by decide +kernel
theorem dX12_drop_9 : decode cX12_drop 9 = .ok (.isub, 1) := by decide +kernel
theorem dX12_drop_10 : decode cX12_drop 10 = .ok (.dup2, 1) := by decide +kernel
theorem dX12_drop_11 : decode cX12_drop 11 = .ok (.iaload, 1) := by decide +kernel
theorem dX12_drop_12 : decode cX12_drop 12 = .ok (.iload_n 1, 1) := by decide +kernel
theorem dX12_drop_13 : decode cX12_drop 13 = .ok (.isub, 1) := by decide +kernel
theorem dX12_drop_14 : decode cX12_drop 14 = .ok (.iastore, 1) := by decide +kernel
theorem dX12_drop_15 : decode cX12_drop 15 = .ok (.return_, 1) := by decide +kernel
theorem dX12_goOn_0 : decode cX12_goOn 0 = .ok (.aload_n 0, 1) := by decide +kernel
theorem dX12_goOn_1 : decode cX12_goOn 1 = .ok (.getfield 182, 3) := by decide +kernel
theorem dX12_goOn_4 : decode cX12_goOn 4 = .ok (.aload_n 0, 1) := by decide +kernel
theorem dX12_goOn_5 : decode cX12_goOn 5 = .ok (.getfield 872, 3) := by decide +kernel
theorem dX12_goOn_8 : decode cX12_goOn 8 = .ok (.iconst 1, 1) := by decide +kernel
theorem dX12_goOn_9 : decode cX12_goOn 9 = .ok (.isub, 1) := by decide +kernel
theorem dX12_goOn_10 : decode cX12_goOn 10 = .ok (.dup2, 1) := by decide +kernel
theorem dX12_goOn_11 : decode cX12_goOn 11 = .ok (.iaload, 1) := by decide +kernel
theorem dX12_goOn_12 : decode cX12_goOn 12 = .ok (.iconst 1, 1) := by decide +kernel
theorem dX12_goOn_13 : decode cX12_goOn 13 = .ok (.iadd, 1) := by decide +kernel
theorem dX12_goOn_14 : decode cX12_goOn 14 = .ok (.iastore, 1) := by decide +kernel
theorem dX12_goOn_15 : decode cX12_goOn 15 = .ok (.return_, 1) := by decide +kernel
theorem dX12_siteLabel_0 : decode cX12_siteLabel 0 = .ok (.bipush 29, 2) := by decide +kernel
theorem dX12_siteLabel_2 : decode cX12_siteLabel 2 = .ok (.bipush 6, 2) := by decide +kernel
theorem dX12_siteLabel_4 : decode cX12_siteLabel 4 = .ok (.aload_n 0, 1) := by decide +kernel
theorem dX12_siteLabel_5 : decode cX12_siteLabel 5 = .ok (.getfield 527, 3) := by decide +kernel
theorem dX12_siteLabel_8 : decode cX12_siteLabel 8 = .ok (.iconst 1, 1) := by decide +kernel
theorem dX12_siteLabel_9 : decode cX12_siteLabel 9 = .ok (.isub, 1) := by decide +kernel
theorem dX12_siteLabel_10 : decode cX12_siteLabel 10 = .ok (.imul, 1) := by decide +kernel
theorem dX12_siteLabel_11 : decode cX12_siteLabel 11 = .ok (.iadd, 1) := by decide +kernel
theorem dX12_siteLabel_12 : decode cX12_siteLabel 12 = .ok (.iconst 2, 1) := by decide +kernel
theorem dX12_siteLabel_13 : decode cX12_siteLabel 13 = .ok (.iload_n 1, 1) := by decide +kernel
theorem dX12_siteLabel_14 : decode cX12_siteLabel 14 = .ok (.imul, 1) := by decide +kernel
theorem dX12_siteLabel_15 : decode cX12_siteLabel 15 = .ok (.iadd, 1) := by decide +kernel
theorem dX12_siteLabel_16 : decode cX12_siteLabel 16 = .ok (.ireturn, 1) := by decide +kernel
theorem dX12_told_0 : decode cX12_told 0 = .ok (.iload_n 3, 1) := by decide +kernel
theorem dX12_told_1 : decode cX12_told 1 = .ok (.ifCond .ne 5, 3) := by decide +kernel
theorem dX12_told_4 : decode cX12_told 4 = .ok (.iload_n 1, 1) := by decide +kernel
theorem dX12_told_5 : decode cX12_told 5 = .ok (.ireturn, 1) := by decide +kernel
theorem dX12_told_6 : decode cX12_told 6 = .ok (.iload_n 3, 1) := by decide +kernel
theorem dX12_told_7 : decode cX12_told 7 = .ok (.iconst 1, 1) := by decide +kernel
theorem dX12_told_8 : decode cX12_told 8 = .ok (.if_icmp .eq 5, 3) := by decide +kernel
theorem dX12_told_11 : decode cX12_told 11 = .ok (.iconst (-1), 1) := by decide +kernel
theorem dX12_told_12 : decode cX12_told 12 = .ok (.ireturn, 1) := by decide +kernel
theorem dX12_told_13 : decode cX12_told 13 = .ok (.iload_n 1, 1) := by decide +kernel
theorem dX12_told_14 : decode cX12_told 14 = .ok (.iconst 5, 1) := by decide +kernel
theorem dX12_told_15 : decode cX12_told 15 = .ok (.if_icmp .lt 13, 3) := by decide +kernel
theorem dX12_told_18 : decode cX12_told 18 = .ok (.iload_n 1, 1) := by decide +kernel
theorem dX12_told_19 : decode cX12_told 19 = .ok (.bipush 7, 2) := by decide +kernel
theorem dX12_told_21 : decode cX12_told 21 = .ok (.if_icmp .gt 7, 3) := by decide +kernel
theorem dX12_told_24 : decode cX12_told 24 = .ok (.iload_n 2, 1) := by decide +kernel
theorem dX12_told_25 : decode cX12_told 25 = .ok (.goto 4, 3) := by decide +kernel
theorem dX12_told_28 : decode cX12_told 28 = .ok (.iconst 0, 1) := by decide +kernel
theorem dX12_told_29 : decode cX12_told 29 = .ok (.ireturn, 1) := by decide +kernel
theorem dX12_argumentSort_0 : decode cX12_argumentSort 0 = .ok (.iload_n 1, 1) := by decide +kernel
theorem dX12_argumentSort_1 : decode cX12_argumentSort 1 = .ok (.aload_n 0, 1) := by decide +kernel
theorem dX12_argumentSort_2 : decode cX12_argumentSort 2 = .ok (.getfield 995, 3) := by decide +kernel
theorem dX12_argumentSort_5 : decode cX12_argumentSort 5 = .ok (.if_icmp .ge 17, 3) := by decide +kernel
theorem dX12_argumentSort_8 : decode cX12_argumentSort 8 = .ok (.aload_n 0, 1) := by decide +kernel
theorem dX12_argumentSort_9 : decode cX12_argumentSort 9 = .ok (.getfield 200, 3) := by decide +kernel
theorem dX12_argumentSort_12 : decode cX12_argumentSort 12 = .ok (.aload_n 0, 1) := by decide +kernel
theorem dX12_argumentSort_13 : decode cX12_argumentSort 13 = .ok (.getfield 998, 3) := by decide +kernel
theorem dX12_argumentSort_16 : decode cX12_argumentSort 16 = .ok (.iload_n 1, 1) := by decide +kernel
theorem dX12_argumentSort_17 : decode cX12_argumentSort 17 = .ok (.iadd, 1) := by decide +kernel
theorem dX12_argumentSort_18 : decode cX12_argumentSort 18 = .ok (.iaload, 1) := by decide +kernel
theorem dX12_argumentSort_19 : decode cX12_argumentSort 19 = .ok (.goto 4, 3) := by decide +kernel
theorem dX12_argumentSort_22 : decode cX12_argumentSort 22 = .ok (.iconst 0, 1) := by decide +kernel
theorem dX12_argumentSort_23 : decode cX12_argumentSort 23 = .ok (.ireturn, 1) := by decide +kernel
theorem dX12_argument_0 : decode cX12_argument 0 = .ok (.iload_n 1, 1) := by decide +kernel
theorem dX12_argument_1 : decode cX12_argument 1 = .ok (.aload_n 0, 1) := by decide +kernel
theorem dX12_argument_2 : decode cX12_argument 2 = .ok (.getfield 995, 3) := by decide +kernel
theorem dX12_argument_5 : decode cX12_argument 5 = .ok (.if_icmp .ge 17, 3) := by decide +kernel
theorem dX12_argument_8 : decode cX12_argument 8 = .ok (.aload_n 0, 1) := by decide +kernel
theorem dX12_argument_9 : decode cX12_argument 9 = .ok (.getfield 203, 3) := by decide +kernel
theorem dX12_argument_12 : decode cX12_argument 12 = .ok (.aload_n 0, 1) := by decide +kernel
theorem dX12_argument_13 : decode cX12_argument 13 = .ok (.getfield 998, 3) := by decide +kernel
theorem dX12_argument_16 : decode cX12_argument 16 = .ok (.iload_n 1, 1) := by decide +kernel
theorem dX12_argument_17 : decode cX12_argument 17 = .ok (.iadd, 1) := by decide +kernel
theorem dX12_argument_18 : decode cX12_argument 18 = .ok (.iaload, 1) := by decide +kernel
theorem dX12_argument_19 : decode cX12_argument 19 = .ok (.goto 4, 3) := by decide +kernel
theorem dX12_argument_22 : decode cX12_argument 22 = .ok (.iconst 0, 1) := by decide +kernel
theorem dX12_argument_23 : decode cX12_argument 23 = .ok (.ireturn, 1) := by decide +kernel
theorem dX12_isFunction_0 : decode cX12_isFunction 0 = .ok (.iload_n 1, 1) := by decide +kernel
theorem dX12_isFunction_1 : decode cX12_isFunction 1 = .ok (.bipush 7, 2) := by decide +kernel
theorem dX12_isFunction_3 : decode cX12_isFunction 3 = .ok (.if_icmp .ne 17, 3) := by decide +kernel
theorem dX12_isFunction_6 : decode cX12_isFunction 6 = .ok (.aload_n 0, 1) := by decide +kernel
theorem dX12_isFunction_7 : decode cX12_isFunction 7 = .ok (.getfield 143, 3) := by decide +kernel
theorem dX12_isFunction_10 : decode cX12_isFunction 10 = .ok (.iload_n 2, 1) := by decide +kernel
theorem dX12_isFunction_11 : decode cX12_isFunction 11 = .ok (.iaload, 1) := by decide +kernel
theorem dX12_isFunction_12 : decode cX12_isFunction 12 = .ok (.iconst 1, 1) := by decide +kernel
theorem dX12_isFunction_13 : decode cX12_isFunction 13 = .ok (.if_icmp .ne 7, 3) := by decide +kernel
theorem dX12_isFunction_16 : decode cX12_isFunction 16 = .ok (.iconst 1, 1) := by decide +kernel
theorem dX12_isFunction_17 : decode cX12_isFunction 17 = .ok (.goto 4, 3) := by decide +kernel
theorem dX12_isFunction_20 : decode cX12_isFunction 20 = .ok (.iconst 0, 1) := by decide +kernel
theorem dX12_isFunction_21 : decode cX12_isFunction 21 = .ok (.ireturn, 1) := by decide +kernel
theorem dX12_typeOf_0 : decode cX12_typeOf 0 = .ok (.iload_n 1, 1) := by decide +kernel
theorem dX12_typeOf_1 : decode cX12_typeOf 1 = .ok (.ifCond .ne 6, 3) := by decide +kernel
theorem dX12_typeOf_4 : decode cX12_typeOf 4 = .ok (.bipush 19, 2) := by decide +kernel
theorem dX12_typeOf_6 : decode cX12_typeOf 6 = .ok (.ireturn, 1) := by decide +kernel
theorem dX12_typeOf_7 : decode cX12_typeOf 7 = .ok (.iload_n 1, 1) := by decide +kernel
theorem dX12_typeOf_8 : decode cX12_typeOf 8 = .ok (.iconst 1, 1) := by decide +kernel
theorem dX12_typeOf_9 : decode cX12_typeOf 9 = .ok (.if_icmp .ne 6, 3) := by decide +kernel
theorem dX12_typeOf_12 : decode cX12_typeOf 12 = .ok (.bipush 20, 2) := by decide +kernel
theorem dX12_typeOf_14 : decode cX12_typeOf 14 = .ok (.ireturn, 1) := by decide +kernel
theorem dX12_typeOf_15 : decode cX12_typeOf 15 = .ok (.iload_n 1, 1) := by decide +kernel
theorem dX12_typeOf_16 : decode cX12_typeOf 16 = .ok (.iconst 2, 1) := by decide +kernel
theorem dX12_typeOf_17 : decode cX12_typeOf 17 = .ok (.if_icmp .eq 8, 3) := by decide +kernel
theorem dX12_typeOf_20 : decode cX12_typeOf 20 = .ok (.iload_n 1, 1) := by decide +kernel
theorem dX12_typeOf_21 : decode cX12_typeOf 21 = .ok (.iconst 3, 1) := by decide +kernel
theorem dX12_typeOf_22 : decode cX12_typeOf 22 = .ok (.if_icmp .ne 6, 3) := by decide +kernel
theorem dX12_typeOf_25 : decode cX12_typeOf 25 = .ok (.bipush 21, 2) := by decide +kernel
theorem dX12_typeOf_27 : decode cX12_typeOf 27 = .ok (.ireturn, 1) := by decide +kernel
theorem dX12_typeOf_28 : decode cX12_typeOf 28 = .ok (.iload_n 1, 1) := by decide +kernel
theorem dX12_typeOf_29 : decode cX12_typeOf 29 = .ok (.iconst 4, 1) := by decide +kernel
theorem dX12_typeOf_30 : decode cX12_typeOf 30 = .ok (.if_icmp .eq 8, 3) := by decide +kernel
theorem dX12_typeOf_33 : decode cX12_typeOf 33 = .ok (.iload_n 1, 1) := by decide +kernel
theorem dX12_typeOf_34 : decode cX12_typeOf 34 = .ok (.iconst 5, 1) := by decide +kernel
theorem dX12_typeOf_35 : decode cX12_typeOf 35 = .ok (.if_icmp .ne 6, 3) := by decide +kernel
theorem dX12_typeOf_38 : decode cX12_typeOf 38 = .ok (.bipush 22, 2) := by decide +kernel
theorem dX12_typeOf_40 : decode cX12_typeOf 40 = .ok (.ireturn, 1) := by decide +kernel
theorem dX12_typeOf_41 : decode cX12_typeOf 41 = .ok (.iload_n 1, 1) := by decide +kernel
theorem dX12_typeOf_42 : decode cX12_typeOf 42 = .ok (.bipush 6, 2) := by decide +kernel
theorem dX12_typeOf_44 : decode cX12_typeOf 44 = .ok (.if_icmp .ne 8, 3) := by decide +kernel
theorem dX12_typeOf_47 : decode cX12_typeOf 47 = .ok (.bipush 23, 2) := by decide +kernel
theorem dX12_typeOf_49 : decode cX12_typeOf 49 = .ok (.goto 20, 3) := by decide +kernel
theorem dX12_typeOf_52 : decode cX12_typeOf 52 = .ok (.aload_n 0, 1) := by decide +kernel
theorem dX12_typeOf_53 : decode cX12_typeOf 53 = .ok (.getfield 143, 3) := by decide +kernel
theorem dX12_typeOf_56 : decode cX12_typeOf 56 = .ok (.iload_n 2, 1) := by decide +kernel
theorem dX12_typeOf_57 : decode cX12_typeOf 57 = .ok (.iaload, 1) := by decide +kernel
theorem dX12_typeOf_58 : decode cX12_typeOf 58 = .ok (.iconst 1, 1) := by decide +kernel
theorem dX12_typeOf_59 : decode cX12_typeOf 59 = .ok (.if_icmp .ne 8, 3) := by decide +kernel
theorem dX12_typeOf_62 : decode cX12_typeOf 62 = .ok (.bipush 24, 2) := by decide +kernel
theorem dX12_typeOf_64 : decode cX12_typeOf 64 = .ok (.goto 5, 3) := by decide +kernel
theorem dX12_typeOf_67 : decode cX12_typeOf 67 = .ok (.bipush 20, 2) := by decide +kernel
theorem dX12_typeOf_69 : decode cX12_typeOf 69 = .ok (.ireturn, 1) := by decide +kernel

def q_top (S : sv_S) : Option Value → sv_S → Prop := fun v S' => v = some (sv_I ((400 * ((S 1092 0) - 1) + (S 58 ((S 1092 0) - 1))))) ∧ S' = S
theorem la_top_0 {x0 : Int} (h0 : 1 ≤ x0) (h1 : x0 ≤ 24) : 0 ≤ x0 - 1 ∧ x0 - 1 < 24 := by omega
theorem la_top_1 {x0 x1 : Int} : 400 * (x0 - 1) + x1 = 400 * (x0 - 1) + x1 := by omega
set_option maxHeartbeats 2000000 in
theorem f_top : ∀ (S : sv_S), sm_ok S → (1 ≤ (S 1092 0) ∧ (S 1092 0) ≤ 24 ∧ 0 ≤ (S 58 ((S 1092 0) - 1)) ∧ (S 58 ((S 1092 0) - 1)) ≤ 400) → (sv_R (S 1092 0) → (0 ≤ ((S 1092 0) - (1 : Int)) ∧ ((S 1092 0) - (1 : Int)) < 24) ∧ (sv_R (S 58 ((S 1092 0) - (1 : Int))) → (((400 : Int) * ((S 1092 0) - (1 : Int))) + (S 58 ((S 1092 0) - (1 : Int)))) = ((400 * ((S 1092 0) - 1) + (S 58 ((S 1092 0) - 1)))))) := by
  intro S
  intro h1_
  rintro ⟨h2_, ⟨h3_, ⟨h4_, h5_⟩⟩⟩
  intro h6_
  refine ⟨(la_top_0 h2_ h3_), ?_⟩
  intro h7_
  exact la_top_1
set_option maxRecDepth 8000 in
set_option maxHeartbeats 2000000 in
theorem t_top : ∀ (S : sv_S), sm_ok S → (1 ≤ (S 1092 0) ∧ (S 1092 0) ≤ 24 ∧ 0 ≤ (S 58 ((S 1092 0) - 1)) ∧ (S 58 ((S 1092 0) - 1)) ≤ 400) → sv_T sm_XS sm_cs sm_L sm_sh 0 (q_top S) 149 0 (lv_args 0 [.ref 0]) [] S := by
  intro S hok hpre
  have h := f_top S hok hpre
  have hM := sm_h149
  show sv_T sm_XS sm_cs sm_L sm_sh 0 (q_top S) 149 0 [(0, .ref 0)] [] S
  refine sv_sipush (d := (400 : Int)) hM dX12_top_0 rfl rfl ?_
  refine sv_aload_n hM dX12_top_3 rfl rfl ?_
  have k1 : sv_R (S 1092 0) := sm_okI hok sm_r1092 0
  have h := h k1
  refine sv_getI hM dX12_top_4 sm_fl_872 (sm_a0 _) sm_k92 rfl (x := (S 1092 0)) rfl ?_
  refine sv_iconst (d := (1 : Int)) hM dX12_top_7 rfl rfl ?_
  refine sv_isub hM dX12_top_8 rfl ?_
  refine sv_imul hM dX12_top_9 rfl ?_
  refine sv_aload_n hM dX12_top_10 rfl rfl ?_
  refine sv_getA hM dX12_top_11 sm_fl_185 (sm_a0 _) sm_k98 rfl ?_
  refine sv_aload_n hM dX12_top_14 rfl rfl ?_
  refine sv_getI hM dX12_top_15 sm_fl_872 (sm_a0 _) sm_k92 rfl (x := (S 1092 0)) rfl ?_
  refine sv_iconst (d := (1 : Int)) hM dX12_top_18 rfl rfl ?_
  refine sv_isub hM dX12_top_19 rfl ?_
  obtain ⟨o2, h⟩ := h
  have k3 : sv_R (S 58 ((S 1092 0) - (1 : Int))) := sm_okI hok sm_r58 ((S 1092 0) - (1 : Int))
  have h := h k3
  refine sv_iald hM dX12_top_20 (sm_a58 _) (by decide) o2.1 o2.2 rfl (x := (S 58 ((S 1092 0) - (1 : Int)))) rfl ?_
  refine sv_iadd hM dX12_top_21 rfl ?_
  exact sv_iret hM dX12_top_22 rfl rfl ⟨congrArg (fun z => some (sv_I z)) h, rfl⟩
def q_sortAt (p1 : Int) (S : sv_S) : Option Value → sv_S → Prop := fun v S' => v = some (sv_I ((S 63 ((400 * ((S 1092 0) - 1) + (S 58 ((S 1092 0) - 1))) - 1 - p1)))) ∧ S' = S
theorem la_sortAt_0 {x0 x1 x2 : Int} (h0 : 1 ≤ x0) (h1 : x0 ≤ 24) (h2 : x1 ≤ 400) (h3 : 0 ≤ x2) (h4 : x2 < x1) : 1 ≤ x0 ∧ x0 ≤ 24 ∧ 0 ≤ x1 ∧ x1 ≤ 400 := by omega
theorem la_sortAt_1 {x0 x1 x2 : Int} (h0 : 1 ≤ x0) (h1 : x0 ≤ 24) (h2 : x1 ≤ 400) (h3 : 0 ≤ x2) (h4 : x2 < x1) : 0 ≤ 400 * (x0 - 1) + x1 - 1 - x2 ∧ 400 * (x0 - 1) + x1 - 1 - x2 < 9600 := by omega
theorem la_sortAt_2 {x0 : Int} : x0 = x0 := by omega
set_option maxHeartbeats 2000000 in
theorem f_sortAt : ∀ (p1 : Int) (S : sv_S), sm_ok S → sv_R p1 → (1 ≤ (S 1092 0) ∧ (S 1092 0) ≤ 24 ∧ 0 ≤ (S 58 ((S 1092 0) - 1)) ∧ (S 58 ((S 1092 0) - 1)) ≤ 400 ∧ 0 ≤ p1 ∧ p1 < (S 58 ((S 1092 0) - 1))) → (1 ≤ (S 1092 0) ∧ (S 1092 0) ≤ 24 ∧ 0 ≤ (S 58 ((S 1092 0) - 1)) ∧ (S 58 ((S 1092 0) - 1)) ≤ 400) ∧ (0 ≤ ((((400 * ((S 1092 0) - 1) + (S 58 ((S 1092 0) - 1)))) - (1 : Int)) - p1) ∧ ((((400 * ((S 1092 0) - 1) + (S 58 ((S 1092 0) - 1)))) - (1 : Int)) - p1) < 9600) ∧ (sv_R (S 63 ((((400 * ((S 1092 0) - 1) + (S 58 ((S 1092 0) - 1)))) - (1 : Int)) - p1)) → (S 63 ((((400 * ((S 1092 0) - 1) + (S 58 ((S 1092 0) - 1)))) - (1 : Int)) - p1)) = ((S 63 ((400 * ((S 1092 0) - 1) + (S 58 ((S 1092 0) - 1))) - 1 - p1)))) := by
  intro p1
  intro S
  intro h1_
  intro h2_
  rintro ⟨h3_, ⟨h4_, ⟨h5_, ⟨h6_, ⟨h7_, h8_⟩⟩⟩⟩⟩
  refine ⟨(la_sortAt_0 h3_ h4_ h6_ h7_ h8_), ?_⟩
  refine ⟨(la_sortAt_1 h3_ h4_ h6_ h7_ h8_), ?_⟩
  intro h9_
  exact la_sortAt_2
set_option maxRecDepth 8000 in
set_option maxHeartbeats 2000000 in
theorem t_sortAt : ∀ (p1 : Int) (S : sv_S), sm_ok S → sv_R p1 → (1 ≤ (S 1092 0) ∧ (S 1092 0) ≤ 24 ∧ 0 ≤ (S 58 ((S 1092 0) - 1)) ∧ (S 58 ((S 1092 0) - 1)) ≤ 400 ∧ 0 ≤ p1 ∧ p1 < (S 58 ((S 1092 0) - 1))) → sv_T sm_XS sm_cs sm_L sm_sh 1 (q_sortAt p1 S) 150 0 (lv_args 0 [.ref 0, sv_I p1]) [] S := by
  intro p1 S hok hp1 hpre
  have h := f_sortAt p1 S hok hp1 hpre
  have hM := sm_h150
  show sv_T sm_XS sm_cs sm_L sm_sh 1 (q_sortAt p1 S) 150 0 [(0, .ref 0), (1, sv_I p1)] [] S
  refine sv_aload_n hM dX12_sortAt_0 rfl rfl ?_
  refine sv_getA hM dX12_sortAt_1 sm_fl_200 (sm_a0 _) sm_k103 rfl ?_
  refine sv_aload_n hM dX12_sortAt_4 rfl rfl ?_
  obtain ⟨o1, h⟩ := h
  refine sv_callV hM dX12_sortAt_5 sm_iv_879 (by decide) (sm_a0 _) rfl rfl (Nat.le_of_ble_eq_true rfl) sm_h149 (Nat.le_of_ble_eq_true rfl) (Nat.le_of_ble_eq_true rfl) (F' := 0) (Nat.le_of_ble_eq_true rfl) rfl (t_top  S hok o1) (fun v S1 hq => ?_)
  obtain ⟨rfl, hS1⟩ := hq
  obtain rfl : S = S1 := hS1.symm
  show sv_T sm_XS sm_cs sm_L sm_sh 1 (q_sortAt p1 S) 150 8 [(0, .ref 0), (1, sv_I p1)] [sv_I ((400 * ((S 1092 0) - 1) + (S 58 ((S 1092 0) - 1)))), .ref 63] S
  refine sv_iconst (d := (1 : Int)) hM dX12_sortAt_8 rfl rfl ?_
  refine sv_isub hM dX12_sortAt_9 rfl ?_
  refine sv_iload_n hM dX12_sortAt_10 rfl rfl ?_
  refine sv_isub hM dX12_sortAt_11 rfl ?_
  obtain ⟨o2, h⟩ := h
  have k3 : sv_R (S 63 ((((400 * ((S 1092 0) - 1) + (S 58 ((S 1092 0) - 1)))) - (1 : Int)) - p1)) := sm_okI hok sm_r63 ((((400 * ((S 1092 0) - 1) + (S 58 ((S 1092 0) - 1)))) - (1 : Int)) - p1)
  have h := h k3
  refine sv_iald hM dX12_sortAt_12 (sm_a63 _) (by decide) o2.1 o2.2 rfl (x := (S 63 ((((400 * ((S 1092 0) - 1) + (S 58 ((S 1092 0) - 1)))) - (1 : Int)) - p1))) rfl ?_
  exact sv_iret hM dX12_sortAt_13 rfl rfl ⟨congrArg (fun z => some (sv_I z)) h, rfl⟩
def q_valueAt (p1 : Int) (S : sv_S) : Option Value → sv_S → Prop := fun v S' => v = some (sv_I ((S 64 ((400 * ((S 1092 0) - 1) + (S 58 ((S 1092 0) - 1))) - 1 - p1)))) ∧ S' = S
theorem la_valueAt_0 {x0 x1 x2 : Int} (h0 : 1 ≤ x0) (h1 : x0 ≤ 24) (h2 : x1 ≤ 400) (h3 : 0 ≤ x2) (h4 : x2 < x1) : 1 ≤ x0 ∧ x0 ≤ 24 ∧ 0 ≤ x1 ∧ x1 ≤ 400 := by omega
theorem la_valueAt_1 {x0 x1 x2 : Int} (h0 : 1 ≤ x0) (h1 : x0 ≤ 24) (h2 : x1 ≤ 400) (h3 : 0 ≤ x2) (h4 : x2 < x1) : 0 ≤ 400 * (x0 - 1) + x1 - 1 - x2 ∧ 400 * (x0 - 1) + x1 - 1 - x2 < 9600 := by omega
theorem la_valueAt_2 {x0 : Int} : x0 = x0 := by omega
set_option maxHeartbeats 2000000 in
theorem f_valueAt : ∀ (p1 : Int) (S : sv_S), sm_ok S → sv_R p1 → (1 ≤ (S 1092 0) ∧ (S 1092 0) ≤ 24 ∧ 0 ≤ (S 58 ((S 1092 0) - 1)) ∧ (S 58 ((S 1092 0) - 1)) ≤ 400 ∧ 0 ≤ p1 ∧ p1 < (S 58 ((S 1092 0) - 1))) → (1 ≤ (S 1092 0) ∧ (S 1092 0) ≤ 24 ∧ 0 ≤ (S 58 ((S 1092 0) - 1)) ∧ (S 58 ((S 1092 0) - 1)) ≤ 400) ∧ (0 ≤ ((((400 * ((S 1092 0) - 1) + (S 58 ((S 1092 0) - 1)))) - (1 : Int)) - p1) ∧ ((((400 * ((S 1092 0) - 1) + (S 58 ((S 1092 0) - 1)))) - (1 : Int)) - p1) < 9600) ∧ (sv_R (S 64 ((((400 * ((S 1092 0) - 1) + (S 58 ((S 1092 0) - 1)))) - (1 : Int)) - p1)) → (S 64 ((((400 * ((S 1092 0) - 1) + (S 58 ((S 1092 0) - 1)))) - (1 : Int)) - p1)) = ((S 64 ((400 * ((S 1092 0) - 1) + (S 58 ((S 1092 0) - 1))) - 1 - p1)))) := by
  intro p1
  intro S
  intro h1_
  intro h2_
  rintro ⟨h3_, ⟨h4_, ⟨h5_, ⟨h6_, ⟨h7_, h8_⟩⟩⟩⟩⟩
  refine ⟨(la_valueAt_0 h3_ h4_ h6_ h7_ h8_), ?_⟩
  refine ⟨(la_valueAt_1 h3_ h4_ h6_ h7_ h8_), ?_⟩
  intro h9_
  exact la_valueAt_2
set_option maxRecDepth 8000 in
set_option maxHeartbeats 2000000 in
theorem t_valueAt : ∀ (p1 : Int) (S : sv_S), sm_ok S → sv_R p1 → (1 ≤ (S 1092 0) ∧ (S 1092 0) ≤ 24 ∧ 0 ≤ (S 58 ((S 1092 0) - 1)) ∧ (S 58 ((S 1092 0) - 1)) ≤ 400 ∧ 0 ≤ p1 ∧ p1 < (S 58 ((S 1092 0) - 1))) → sv_T sm_XS sm_cs sm_L sm_sh 1 (q_valueAt p1 S) 151 0 (lv_args 0 [.ref 0, sv_I p1]) [] S := by
  intro p1 S hok hp1 hpre
  have h := f_valueAt p1 S hok hp1 hpre
  have hM := sm_h151
  show sv_T sm_XS sm_cs sm_L sm_sh 1 (q_valueAt p1 S) 151 0 [(0, .ref 0), (1, sv_I p1)] [] S
  refine sv_aload_n hM dX12_valueAt_0 rfl rfl ?_
  refine sv_getA hM dX12_valueAt_1 sm_fl_203 (sm_a0 _) sm_k104 rfl ?_
  refine sv_aload_n hM dX12_valueAt_4 rfl rfl ?_
  obtain ⟨o1, h⟩ := h
  refine sv_callV hM dX12_valueAt_5 sm_iv_879 (by decide) (sm_a0 _) rfl rfl (Nat.le_of_ble_eq_true rfl) sm_h149 (Nat.le_of_ble_eq_true rfl) (Nat.le_of_ble_eq_true rfl) (F' := 0) (Nat.le_of_ble_eq_true rfl) rfl (t_top  S hok o1) (fun v S1 hq => ?_)
  obtain ⟨rfl, hS1⟩ := hq
  obtain rfl : S = S1 := hS1.symm
  show sv_T sm_XS sm_cs sm_L sm_sh 1 (q_valueAt p1 S) 151 8 [(0, .ref 0), (1, sv_I p1)] [sv_I ((400 * ((S 1092 0) - 1) + (S 58 ((S 1092 0) - 1)))), .ref 64] S
  refine sv_iconst (d := (1 : Int)) hM dX12_valueAt_8 rfl rfl ?_
  refine sv_isub hM dX12_valueAt_9 rfl ?_
  refine sv_iload_n hM dX12_valueAt_10 rfl rfl ?_
  refine sv_isub hM dX12_valueAt_11 rfl ?_
  obtain ⟨o2, h⟩ := h
  have k3 : sv_R (S 64 ((((400 * ((S 1092 0) - 1) + (S 58 ((S 1092 0) - 1)))) - (1 : Int)) - p1)) := sm_okI hok sm_r64 ((((400 * ((S 1092 0) - 1) + (S 58 ((S 1092 0) - 1)))) - (1 : Int)) - p1)
  have h := h k3
  refine sv_iald hM dX12_valueAt_12 (sm_a64 _) (by decide) o2.1 o2.2 rfl (x := (S 64 ((((400 * ((S 1092 0) - 1) + (S 58 ((S 1092 0) - 1)))) - (1 : Int)) - p1))) rfl ?_
  exact sv_iret hM dX12_valueAt_13 rfl rfl ⟨congrArg (fun z => some (sv_I z)) h, rfl⟩
def q_push (p1 : Int) (p2 : Int) (S : sv_S) : Option Value → sv_S → Prop := fun v S' => v = none ∧ sm_ok S' ∧ sv_mod [63, 64, 58] S S' ∧ ((S' 58 ((S' 1092 0) - 1)) = (S 58 ((S' 1092 0) - 1)) + 1 ∧ (S' 63 (400 * ((S 1092 0) - 1) + (S 58 ((S 1092 0) - 1)))) = p1 ∧ (S' 64 (400 * ((S 1092 0) - 1) + (S 58 ((S 1092 0) - 1)))) = p2 ∧ (∀ k : Int, ¬ k = (S' 1092 0) - 1 → (S' 58 k) = (S 58 k)) ∧ (∀ k : Int, ¬ k = (400 * ((S 1092 0) - 1) + (S 58 ((S 1092 0) - 1))) → (S' 63 k) = (S 63 k)) ∧ (∀ k : Int, ¬ k = (400 * ((S 1092 0) - 1) + (S 58 ((S 1092 0) - 1))) → (S' 64 k) = (S 64 k)))
theorem la_push_0 {x0 x1 : Int} (h0 : 1 ≤ x0) (h1 : x0 ≤ 24) (h2 : 0 ≤ x1) (h3 : x1 < 400) : 1 ≤ x0 ∧ x0 ≤ 24 ∧ 0 ≤ x1 ∧ x1 ≤ 400 := by omega
theorem la_push_1 {x0 x1 : Int} (h0 : 1 ≤ x0) (h1 : x0 ≤ 24) (h2 : 0 ≤ x1) (h3 : x1 < 400) : 0 ≤ 400 * (x0 - 1) + x1 ∧ 400 * (x0 - 1) + x1 < 9600 := by omega
theorem la_push_2 {x0 : Int} (h0 : 1 ≤ x0) (h1 : x0 ≤ 24) : 0 ≤ x0 - 1 ∧ x0 - 1 < 24 := by omega
theorem la_push_3 {x0 : Int} (h0 : 0 ≤ x0) (h1 : x0 < 400) : sv_R (x0 + 1) := by omega
theorem la_push_4 {x0 : Int} : x0 - 1 = x0 - 1 := by omega
theorem la_push_5 {x0 x1 : Int} : 400 * (x0 - 1) + x1 = 400 * (x0 - 1) + x1 := by omega
set_option maxHeartbeats 2000000 in
theorem f_push : ∀ (p1 : Int) (p2 : Int) (S : sv_S), sm_ok S → sv_R p1 → sv_R p2 → (1 ≤ (S 1092 0) ∧ (S 1092 0) ≤ 24 ∧ 0 ≤ (S 58 ((S 1092 0) - 1)) ∧ (S 58 ((S 1092 0) - 1)) ≤ 400 ∧ (S 58 ((S 1092 0) - 1)) < 400) → (1 ≤ (S 1092 0) ∧ (S 1092 0) ≤ 24 ∧ 0 ≤ (S 58 ((S 1092 0) - 1)) ∧ (S 58 ((S 1092 0) - 1)) ≤ 400) ∧ (0 ≤ ((400 * ((S 1092 0) - 1) + (S 58 ((S 1092 0) - 1)))) ∧ ((400 * ((S 1092 0) - 1) + (S 58 ((S 1092 0) - 1)))) < 9600) ∧ (sv_R (S 1092 0) → (0 ≤ ((S 1092 0) - (1 : Int)) ∧ ((S 1092 0) - (1 : Int)) < 24) ∧ (sv_R (S 58 ((S 1092 0) - (1 : Int))) → (sv_R ((S 58 ((S 1092 0) - (1 : Int))) + (1 : Int))) ∧ ((if ((S 1092 0) - 1) = ((S 1092 0) - (1 : Int)) then ((S 58 ((S 1092 0) - (1 : Int))) + (1 : Int)) else (S 58 ((S 1092 0) - 1))) = (S 58 ((S 1092 0) - 1)) + 1 ∧ (if (400 * ((S 1092 0) - 1) + (S 58 ((S 1092 0) - 1))) = ((400 * ((S 1092 0) - 1) + (S 58 ((S 1092 0) - 1)))) then p1 else (S 63 (400 * ((S 1092 0) - 1) + (S 58 ((S 1092 0) - 1))))) = p1 ∧ (if (400 * ((S 1092 0) - 1) + (S 58 ((S 1092 0) - 1))) = ((400 * ((S 1092 0) - 1) + (S 58 ((S 1092 0) - 1)))) then p2 else (S 64 (400 * ((S 1092 0) - 1) + (S 58 ((S 1092 0) - 1))))) = p2 ∧ (∀ k : Int, ¬ k = (S 1092 0) - 1 → (if k = ((S 1092 0) - (1 : Int)) then ((S 58 ((S 1092 0) - (1 : Int))) + (1 : Int)) else (S 58 k)) = (S 58 k)) ∧ (∀ k : Int, ¬ k = (400 * ((S 1092 0) - 1) + (S 58 ((S 1092 0) - 1))) → (if k = ((400 * ((S 1092 0) - 1) + (S 58 ((S 1092 0) - 1)))) then p1 else (S 63 k)) = (S 63 k)) ∧ (∀ k : Int, ¬ k = (400 * ((S 1092 0) - 1) + (S 58 ((S 1092 0) - 1))) → (if k = ((400 * ((S 1092 0) - 1) + (S 58 ((S 1092 0) - 1)))) then p2 else (S 64 k)) = (S 64 k))))) := by
  intro p1
  intro p2
  intro S
  intro h1_
  intro h2_
  intro h3_
  rintro ⟨h4_, ⟨h5_, ⟨h6_, ⟨h7_, h8_⟩⟩⟩⟩
  refine ⟨(la_push_0 h4_ h5_ h6_ h8_), ?_⟩
  refine ⟨(la_push_1 h4_ h5_ h6_ h8_), ?_⟩
  intro h9_
  refine ⟨(la_push_2 h4_ h5_), ?_⟩
  intro h10_
  refine ⟨(la_push_3 h6_ h8_), ?_⟩
  refine ⟨?_, ?_⟩
  · skip
    have e11_ : (if S 1092 0 - 1 = S 1092 0 - 1 then S 58 (S 1092 0 - 1) + 1 else S 58 (S 1092 0 - 1) : Int) = S 58 (S 1092 0 - 1) + 1 := if_pos la_push_4
    exact e11_
  refine ⟨?_, ?_⟩
  · skip
    have e12_ : (if 400 * (S 1092 0 - 1) + S 58 (S 1092 0 - 1) = 400 * (S 1092 0 - 1) + S 58 (S 1092 0 - 1) then p1 else S 63 (400 * (S 1092 0 - 1) + S 58 (S 1092 0 - 1)) : Int) = p1 := if_pos la_push_5
    exact e12_
  refine ⟨?_, ?_⟩
  · skip
    have e13_ : (if 400 * (S 1092 0 - 1) + S 58 (S 1092 0 - 1) = 400 * (S 1092 0 - 1) + S 58 (S 1092 0 - 1) then p2 else S 64 (400 * (S 1092 0 - 1) + S 58 (S 1092 0 - 1)) : Int) = p2 := if_pos la_push_5
    exact e13_
  refine ⟨?_, ?_⟩
  · skip
    intro k
    intro h14_
    have e15_ : (if k = S 1092 0 - 1 then S 58 (S 1092 0 - 1) + 1 else S 58 k : Int) = S 58 k := if_neg h14_
    exact e15_
  refine ⟨?_, ?_⟩
  · skip
    intro k
    intro h16_
    have e17_ : (if k = 400 * (S 1092 0 - 1) + S 58 (S 1092 0 - 1) then p1 else S 63 k : Int) = S 63 k := if_neg h16_
    exact e17_
  intro k
  intro h18_
  have e19_ : (if k = 400 * (S 1092 0 - 1) + S 58 (S 1092 0 - 1) then p2 else S 64 k : Int) = S 64 k := if_neg h18_
  exact e19_
set_option maxRecDepth 8000 in
set_option maxHeartbeats 2000000 in
theorem t_push : ∀ (p1 : Int) (p2 : Int) (S : sv_S), sm_ok S → sv_R p1 → sv_R p2 → (1 ≤ (S 1092 0) ∧ (S 1092 0) ≤ 24 ∧ 0 ≤ (S 58 ((S 1092 0) - 1)) ∧ (S 58 ((S 1092 0) - 1)) ≤ 400 ∧ (S 58 ((S 1092 0) - 1)) < 400) → sv_T sm_XS sm_cs sm_L sm_sh 1 (q_push p1 p2 S) 152 0 (lv_args 0 [.ref 0, sv_I p1, sv_I p2]) [] S := by
  intro p1 p2 S hok hp1 hp2 hpre
  have h := f_push p1 p2 S hok hp1 hp2 hpre
  have hM := sm_h152
  show sv_T sm_XS sm_cs sm_L sm_sh 1 (q_push p1 p2 S) 152 0 [(0, .ref 0), (1, sv_I p1), (2, sv_I p2)] [] S
  refine sv_aload_n hM dX12_push_0 rfl rfl ?_
  refine sv_getA hM dX12_push_1 sm_fl_200 (sm_a0 _) sm_k103 rfl ?_
  refine sv_aload_n hM dX12_push_4 rfl rfl ?_
  obtain ⟨o1, h⟩ := h
  refine sv_callV hM dX12_push_5 sm_iv_879 (by decide) (sm_a0 _) rfl rfl (Nat.le_of_ble_eq_true rfl) sm_h149 (Nat.le_of_ble_eq_true rfl) (Nat.le_of_ble_eq_true rfl) (F' := 0) (Nat.le_of_ble_eq_true rfl) rfl (t_top  S hok o1) (fun v S1 hq => ?_)
  obtain ⟨rfl, hS1⟩ := hq
  obtain rfl : S = S1 := hS1.symm
  show sv_T sm_XS sm_cs sm_L sm_sh 1 (q_push p1 p2 S) 152 8 [(0, .ref 0), (1, sv_I p1), (2, sv_I p2)] [sv_I ((400 * ((S 1092 0) - 1) + (S 58 ((S 1092 0) - 1)))), .ref 63] S
  refine sv_iload_n hM dX12_push_8 rfl rfl ?_
  obtain ⟨o2, h⟩ := h
  refine sv_iast sm_X hM dX12_push_9 (sm_a63 _) (by decide) o2.1 o2.2 rfl ?_
  have ok3 : sm_ok (sv_up S 63 ((400 * ((S 1092 0) - 1) + (S 58 ((S 1092 0) - 1)))) p1) := sm_upI hok sm_r63 hp1
  have md4 : sv_mod [63, 64, 58] S (sv_up S 63 ((400 * ((S 1092 0) - 1) + (S 58 ((S 1092 0) - 1)))) p1) := sv_mod.up sv_mod.rf (by decide)
  refine sv_aload_n hM dX12_push_10 rfl rfl ?_
  refine sv_getA hM dX12_push_11 sm_fl_203 (sm_a0 _) sm_k104 rfl ?_
  refine sv_aload_n hM dX12_push_14 rfl rfl ?_
  refine sv_callV hM dX12_push_15 sm_iv_879 (by decide) (sm_a0 _) rfl rfl (Nat.le_of_ble_eq_true rfl) sm_h149 (Nat.le_of_ble_eq_true rfl) (Nat.le_of_ble_eq_true rfl) (F' := 0) (Nat.le_of_ble_eq_true rfl) rfl (t_top  (sv_up S 63 ((400 * ((S 1092 0) - 1) + (S 58 ((S 1092 0) - 1)))) p1) ok3 o1) (fun v S1 hq => ?_)
  obtain ⟨rfl, hS1⟩ := hq
  obtain rfl : (sv_up S 63 ((400 * ((S 1092 0) - 1) + (S 58 ((S 1092 0) - 1)))) p1) = S1 := hS1.symm
  show sv_T sm_XS sm_cs sm_L sm_sh 1 (q_push p1 p2 S) 152 18 [(0, .ref 0), (1, sv_I p1), (2, sv_I p2)] [sv_I ((400 * ((S 1092 0) - 1) + (S 58 ((S 1092 0) - 1)))), .ref 64] (sv_up S 63 ((400 * ((S 1092 0) - 1) + (S 58 ((S 1092 0) - 1)))) p1)
  refine sv_iload_n hM dX12_push_18 rfl rfl ?_
  refine sv_iast sm_X hM dX12_push_19 (sm_a64 _) (by decide) o2.1 o2.2 rfl ?_
  have ok5 : sm_ok (sv_up (sv_up S 63 ((400 * ((S 1092 0) - 1) + (S 58 ((S 1092 0) - 1)))) p1) 64 ((400 * ((S 1092 0) - 1) + (S 58 ((S 1092 0) - 1)))) p2) := sm_upI ok3 sm_r64 hp2
  have md6 : sv_mod [63, 64, 58] S (sv_up (sv_up S 63 ((400 * ((S 1092 0) - 1) + (S 58 ((S 1092 0) - 1)))) p1) 64 ((400 * ((S 1092 0) - 1) + (S 58 ((S 1092 0) - 1)))) p2) := sv_mod.up md4 (by decide)
  refine sv_aload_n hM dX12_push_20 rfl rfl ?_
  refine sv_getA hM dX12_push_21 sm_fl_185 (sm_a0 _) sm_k98 rfl ?_
  refine sv_aload_n hM dX12_push_24 rfl rfl ?_
  have k7 : sv_R (S 1092 0) := sm_okI ok5 sm_r1092 0
  have h := h k7
  refine sv_getI hM dX12_push_25 sm_fl_872 (sm_a0 _) sm_k92 rfl (x := (S 1092 0)) rfl ?_
  refine sv_iconst (d := (1 : Int)) hM dX12_push_28 rfl rfl ?_
  refine sv_isub hM dX12_push_29 rfl ?_
  refine sv_dup2 hM dX12_push_30 rfl ?_
  obtain ⟨o8, h⟩ := h
  have k9 : sv_R (S 58 ((S 1092 0) - (1 : Int))) := sm_okI ok5 sm_r58 ((S 1092 0) - (1 : Int))
  have h := h k9
  refine sv_iald hM dX12_push_31 (sm_a58 _) (by decide) o8.1 o8.2 rfl (x := (S 58 ((S 1092 0) - (1 : Int)))) rfl ?_
  refine sv_iconst (d := (1 : Int)) hM dX12_push_32 rfl rfl ?_
  refine sv_iadd hM dX12_push_33 rfl ?_
  obtain ⟨o10, h⟩ := h
  refine sv_iast sm_X hM dX12_push_34 (sm_a58 _) (by decide) o8.1 o8.2 rfl ?_
  have ok11 : sm_ok (sv_up (sv_up (sv_up S 63 ((400 * ((S 1092 0) - 1) + (S 58 ((S 1092 0) - 1)))) p1) 64 ((400 * ((S 1092 0) - 1) + (S 58 ((S 1092 0) - 1)))) p2) 58 ((S 1092 0) - (1 : Int)) ((S 58 ((S 1092 0) - (1 : Int))) + (1 : Int))) := sm_upI ok5 sm_r58 o10
  have md12 : sv_mod [63, 64, 58] S (sv_up (sv_up (sv_up S 63 ((400 * ((S 1092 0) - 1) + (S 58 ((S 1092 0) - 1)))) p1) 64 ((400 * ((S 1092 0) - 1) + (S 58 ((S 1092 0) - 1)))) p2) 58 ((S 1092 0) - (1 : Int)) ((S 58 ((S 1092 0) - (1 : Int))) + (1 : Int))) := sv_mod.up md6 (by decide)
  exact sv_vret hM dX12_push_35 rfl ⟨rfl, ok11, md12, h⟩
def q_drop (p1 : Int) (S : sv_S) : Option Value → sv_S → Prop := fun v S' => v = none ∧ sm_ok S' ∧ sv_mod [58] S S' ∧ ((S' 58 ((S' 1092 0) - 1)) = (S 58 ((S' 1092 0) - 1)) - p1 ∧ (∀ k : Int, ¬ k = (S' 1092 0) - 1 → (S' 58 k) = (S 58 k)))
theorem la_drop_0 {x0 : Int} (h0 : 1 ≤ x0) (h1 : x0 ≤ 24) : 0 ≤ x0 - 1 ∧ x0 - 1 < 24 := by omega
theorem la_drop_1 {x0 x1 : Int} (h0 : x0 ≤ 400) (h1 : 0 ≤ x1) (h2 : x1 ≤ x0) : sv_R (x0 - x1) := by omega
theorem la_drop_2 {x0 : Int} : x0 - 1 = x0 - 1 := by omega
set_option maxHeartbeats 2000000 in
theorem f_drop : ∀ (p1 : Int) (S : sv_S), sm_ok S → sv_R p1 → (1 ≤ (S 1092 0) ∧ (S 1092 0) ≤ 24 ∧ 0 ≤ (S 58 ((S 1092 0) - 1)) ∧ (S 58 ((S 1092 0) - 1)) ≤ 400 ∧ 0 ≤ p1 ∧ p1 ≤ (S 58 ((S 1092 0) - 1))) → (sv_R (S 1092 0) → (0 ≤ ((S 1092 0) - (1 : Int)) ∧ ((S 1092 0) - (1 : Int)) < 24) ∧ (sv_R (S 58 ((S 1092 0) - (1 : Int))) → (sv_R ((S 58 ((S 1092 0) - (1 : Int))) - p1)) ∧ ((if ((S 1092 0) - 1) = ((S 1092 0) - (1 : Int)) then ((S 58 ((S 1092 0) - (1 : Int))) - p1) else (S 58 ((S 1092 0) - 1))) = (S 58 ((S 1092 0) - 1)) - p1 ∧ (∀ k : Int, ¬ k = (S 1092 0) - 1 → (if k = ((S 1092 0) - (1 : Int)) then ((S 58 ((S 1092 0) - (1 : Int))) - p1) else (S 58 k)) = (S 58 k))))) := by
  intro p1
  intro S
  intro h1_
  intro h2_
  rintro ⟨h3_, ⟨h4_, ⟨h5_, ⟨h6_, ⟨h7_, h8_⟩⟩⟩⟩⟩
  intro h9_
  refine ⟨(la_drop_0 h3_ h4_), ?_⟩
  intro h10_
  refine ⟨(la_drop_1 h6_ h7_ h8_), ?_⟩
  refine ⟨?_, ?_⟩
  · skip
    have e11_ : (if S 1092 0 - 1 = S 1092 0 - 1 then S 58 (S 1092 0 - 1) - p1 else S 58 (S 1092 0 - 1) : Int) = S 58 (S 1092 0 - 1) - p1 := if_pos la_drop_2
    exact e11_
  intro k
  intro h12_
  have e13_ : (if k = S 1092 0 - 1 then S 58 (S 1092 0 - 1) - p1 else S 58 k : Int) = S 58 k := if_neg h12_
  exact e13_
set_option maxRecDepth 8000 in
set_option maxHeartbeats 2000000 in
theorem t_drop : ∀ (p1 : Int) (S : sv_S), sm_ok S → sv_R p1 → (1 ≤ (S 1092 0) ∧ (S 1092 0) ≤ 24 ∧ 0 ≤ (S 58 ((S 1092 0) - 1)) ∧ (S 58 ((S 1092 0) - 1)) ≤ 400 ∧ 0 ≤ p1 ∧ p1 ≤ (S 58 ((S 1092 0) - 1))) → sv_T sm_XS sm_cs sm_L sm_sh 0 (q_drop p1 S) 153 0 (lv_args 0 [.ref 0, sv_I p1]) [] S := by
  intro p1 S hok hp1 hpre
  have h := f_drop p1 S hok hp1 hpre
  have hM := sm_h153
  show sv_T sm_XS sm_cs sm_L sm_sh 0 (q_drop p1 S) 153 0 [(0, .ref 0), (1, sv_I p1)] [] S
  refine sv_aload_n hM dX12_drop_0 rfl rfl ?_
  refine sv_getA hM dX12_drop_1 sm_fl_185 (sm_a0 _) sm_k98 rfl ?_
  refine sv_aload_n hM dX12_drop_4 rfl rfl ?_
  have k1 : sv_R (S 1092 0) := sm_okI hok sm_r1092 0
  have h := h k1
  refine sv_getI hM dX12_drop_5 sm_fl_872 (sm_a0 _) sm_k92 rfl (x := (S 1092 0)) rfl ?_
  refine sv_iconst (d := (1 : Int)) hM dX12_drop_8 rfl rfl ?_
  refine sv_isub hM dX12_drop_9 rfl ?_
  refine sv_dup2 hM dX12_drop_10 rfl ?_
  obtain ⟨o2, h⟩ := h
  have k3 : sv_R (S 58 ((S 1092 0) - (1 : Int))) := sm_okI hok sm_r58 ((S 1092 0) - (1 : Int))
  have h := h k3
  refine sv_iald hM dX12_drop_11 (sm_a58 _) (by decide) o2.1 o2.2 rfl (x := (S 58 ((S 1092 0) - (1 : Int)))) rfl ?_
  refine sv_iload_n hM dX12_drop_12 rfl rfl ?_
  refine sv_isub hM dX12_drop_13 rfl ?_
  obtain ⟨o4, h⟩ := h
  refine sv_iast sm_X hM dX12_drop_14 (sm_a58 _) (by decide) o2.1 o2.2 rfl ?_
  have ok5 : sm_ok (sv_up S 58 ((S 1092 0) - (1 : Int)) ((S 58 ((S 1092 0) - (1 : Int))) - p1)) := sm_upI hok sm_r58 o4
  have md6 : sv_mod [58] S (sv_up S 58 ((S 1092 0) - (1 : Int)) ((S 58 ((S 1092 0) - (1 : Int))) - p1)) := sv_mod.up sv_mod.rf (by decide)
  exact sv_vret hM dX12_drop_15 rfl ⟨rfl, ok5, md6, h⟩
def q_goOn (S : sv_S) : Option Value → sv_S → Prop := fun v S' => v = none ∧ sm_ok S' ∧ sv_mod [57] S S' ∧ ((S' 57 ((S' 1092 0) - 1)) = (S 57 ((S' 1092 0) - 1)) + 1 ∧ (∀ k : Int, ¬ k = (S' 1092 0) - 1 → (S' 57 k) = (S 57 k)))
theorem la_goOn_0 {x0 : Int} (h0 : 1 ≤ x0) (h1 : x0 ≤ 24) : 0 ≤ x0 - 1 ∧ x0 - 1 < 24 := by omega
theorem la_goOn_1 {x0 : Int} (h0 : 0 ≤ x0) (h1 : x0 ≤ 600) : sv_R (x0 + 1) := by omega
theorem la_goOn_2 {x0 : Int} : x0 - 1 = x0 - 1 := by omega
set_option maxHeartbeats 2000000 in
theorem f_goOn : ∀ (S : sv_S), sm_ok S → (1 ≤ (S 1092 0) ∧ (S 1092 0) ≤ 24 ∧ 0 ≤ (S 57 ((S 1092 0) - 1)) ∧ (S 57 ((S 1092 0) - 1)) ≤ 600) → (sv_R (S 1092 0) → (0 ≤ ((S 1092 0) - (1 : Int)) ∧ ((S 1092 0) - (1 : Int)) < 24) ∧ (sv_R (S 57 ((S 1092 0) - (1 : Int))) → (sv_R ((S 57 ((S 1092 0) - (1 : Int))) + (1 : Int))) ∧ ((if ((S 1092 0) - 1) = ((S 1092 0) - (1 : Int)) then ((S 57 ((S 1092 0) - (1 : Int))) + (1 : Int)) else (S 57 ((S 1092 0) - 1))) = (S 57 ((S 1092 0) - 1)) + 1 ∧ (∀ k : Int, ¬ k = (S 1092 0) - 1 → (if k = ((S 1092 0) - (1 : Int)) then ((S 57 ((S 1092 0) - (1 : Int))) + (1 : Int)) else (S 57 k)) = (S 57 k))))) := by
  intro S
  intro h1_
  rintro ⟨h2_, ⟨h3_, ⟨h4_, h5_⟩⟩⟩
  intro h6_
  refine ⟨(la_goOn_0 h2_ h3_), ?_⟩
  intro h7_
  refine ⟨(la_goOn_1 h4_ h5_), ?_⟩
  refine ⟨?_, ?_⟩
  · skip
    have e8_ : (if S 1092 0 - 1 = S 1092 0 - 1 then S 57 (S 1092 0 - 1) + 1 else S 57 (S 1092 0 - 1) : Int) = S 57 (S 1092 0 - 1) + 1 := if_pos la_goOn_2
    exact e8_
  intro k
  intro h9_
  have e10_ : (if k = S 1092 0 - 1 then S 57 (S 1092 0 - 1) + 1 else S 57 k : Int) = S 57 k := if_neg h9_
  exact e10_
set_option maxRecDepth 8000 in
set_option maxHeartbeats 2000000 in
theorem t_goOn : ∀ (S : sv_S), sm_ok S → (1 ≤ (S 1092 0) ∧ (S 1092 0) ≤ 24 ∧ 0 ≤ (S 57 ((S 1092 0) - 1)) ∧ (S 57 ((S 1092 0) - 1)) ≤ 600) → sv_T sm_XS sm_cs sm_L sm_sh 0 (q_goOn S) 154 0 (lv_args 0 [.ref 0]) [] S := by
  intro S hok hpre
  have h := f_goOn S hok hpre
  have hM := sm_h154
  show sv_T sm_XS sm_cs sm_L sm_sh 0 (q_goOn S) 154 0 [(0, .ref 0)] [] S
  refine sv_aload_n hM dX12_goOn_0 rfl rfl ?_
  refine sv_getA hM dX12_goOn_1 sm_fl_182 (sm_a0 _) sm_k97 rfl ?_
  refine sv_aload_n hM dX12_goOn_4 rfl rfl ?_
  have k1 : sv_R (S 1092 0) := sm_okI hok sm_r1092 0
  have h := h k1
  refine sv_getI hM dX12_goOn_5 sm_fl_872 (sm_a0 _) sm_k92 rfl (x := (S 1092 0)) rfl ?_
  refine sv_iconst (d := (1 : Int)) hM dX12_goOn_8 rfl rfl ?_
  refine sv_isub hM dX12_goOn_9 rfl ?_
  refine sv_dup2 hM dX12_goOn_10 rfl ?_
  obtain ⟨o2, h⟩ := h
  have k3 : sv_R (S 57 ((S 1092 0) - (1 : Int))) := sm_okI hok sm_r57 ((S 1092 0) - (1 : Int))
  have h := h k3
  refine sv_iald hM dX12_goOn_11 (sm_a57 _) (by decide) o2.1 o2.2 rfl (x := (S 57 ((S 1092 0) - (1 : Int)))) rfl ?_
  refine sv_iconst (d := (1 : Int)) hM dX12_goOn_12 rfl rfl ?_
  refine sv_iadd hM dX12_goOn_13 rfl ?_
  obtain ⟨o4, h⟩ := h
  refine sv_iast sm_X hM dX12_goOn_14 (sm_a57 _) (by decide) o2.1 o2.2 rfl ?_
  have ok5 : sm_ok (sv_up S 57 ((S 1092 0) - (1 : Int)) ((S 57 ((S 1092 0) - (1 : Int))) + (1 : Int))) := sm_upI hok sm_r57 o4
  have md6 : sv_mod [57] S (sv_up S 57 ((S 1092 0) - (1 : Int)) ((S 57 ((S 1092 0) - (1 : Int))) + (1 : Int))) := sv_mod.up sv_mod.rf (by decide)
  exact sv_vret hM dX12_goOn_15 rfl ⟨rfl, ok5, md6, h⟩
def q_siteLabel (p1 : Int) (S : sv_S) : Option Value → sv_S → Prop := fun v S' => ∃ r : Int, v = some (sv_I r) ∧ sv_R r ∧ sm_ok S' ∧ sv_mod [] S S' ∧ (r = 29 + 6 * ((S' 1032 0) - 1) + 2 * p1)
theorem la_siteLabel_0 {x0 x1 : Int} (h0 : 0 ≤ x0) (h1 : x0 ≤ 600) (h2 : 1 ≤ x1) (h3 : x1 ≤ 4001) : sv_R (29 + 6 * (x1 - 1) + 2 * x0) := by omega
theorem la_siteLabel_1 {x0 x1 : Int} : 29 + 6 * (x0 - 1) + 2 * x1 = 29 + 6 * (x0 - 1) + 2 * x1 := by omega
set_option maxHeartbeats 2000000 in
theorem f_siteLabel : ∀ (p1 : Int) (S : sv_S), sm_ok S → sv_R p1 → (0 ≤ p1 ∧ p1 ≤ 600 ∧ 1 ≤ (S 1032 0) ∧ (S 1032 0) ≤ 4001) → (sv_R (S 1032 0) → (sv_R (((29 : Int) + ((6 : Int) * ((S 1032 0) - (1 : Int)))) + ((2 : Int) * p1))) ∧ ((((29 : Int) + ((6 : Int) * ((S 1032 0) - (1 : Int)))) + ((2 : Int) * p1)) = 29 + 6 * ((S 1032 0) - 1) + 2 * p1)) := by
  intro p1
  intro S
  intro h1_
  intro h2_
  rintro ⟨h3_, ⟨h4_, ⟨h5_, h6_⟩⟩⟩
  intro h7_
  refine ⟨(la_siteLabel_0 h3_ h4_ h5_ h6_), ?_⟩
  exact la_siteLabel_1
set_option maxRecDepth 8000 in
set_option maxHeartbeats 2000000 in
theorem t_siteLabel : ∀ (p1 : Int) (S : sv_S), sm_ok S → sv_R p1 → (0 ≤ p1 ∧ p1 ≤ 600 ∧ 1 ≤ (S 1032 0) ∧ (S 1032 0) ≤ 4001) → sv_T sm_XS sm_cs sm_L sm_sh 0 (q_siteLabel p1 S) 166 0 (lv_args 0 [.ref 0, sv_I p1]) [] S := by
  intro p1 S hok hp1 hpre
  have h := f_siteLabel p1 S hok hp1 hpre
  have hM := sm_h166
  show sv_T sm_XS sm_cs sm_L sm_sh 0 (q_siteLabel p1 S) 166 0 [(0, .ref 0), (1, sv_I p1)] [] S
  refine sv_bipush (d := (29 : Int)) hM dX12_siteLabel_0 rfl rfl ?_
  refine sv_bipush (d := (6 : Int)) hM dX12_siteLabel_2 rfl rfl ?_
  refine sv_aload_n hM dX12_siteLabel_4 rfl rfl ?_
  have k1 : sv_R (S 1032 0) := sm_okI hok sm_r1032 0
  have h := h k1
  refine sv_getI hM dX12_siteLabel_5 sm_fl_527 (sm_a0 _) sm_k32 rfl (x := (S 1032 0)) rfl ?_
  refine sv_iconst (d := (1 : Int)) hM dX12_siteLabel_8 rfl rfl ?_
  refine sv_isub hM dX12_siteLabel_9 rfl ?_
  refine sv_imul hM dX12_siteLabel_10 rfl ?_
  refine sv_iadd hM dX12_siteLabel_11 rfl ?_
  refine sv_iconst (d := (2 : Int)) hM dX12_siteLabel_12 rfl rfl ?_
  refine sv_iload_n hM dX12_siteLabel_13 rfl rfl ?_
  refine sv_imul hM dX12_siteLabel_14 rfl ?_
  refine sv_iadd hM dX12_siteLabel_15 rfl ?_
  obtain ⟨o2, h⟩ := h
  exact sv_iret hM dX12_siteLabel_16 rfl rfl ⟨(((29 : Int) + ((6 : Int) * ((S 1032 0) - (1 : Int)))) + ((2 : Int) * p1)), rfl, o2, hok, sv_mod.rf, h⟩
def q_told (p1 : Int) (p2 : Int) (p3 : Int) (S : sv_S) : Option Value → sv_S → Prop := fun v S' => ∃ r : Int, v = some (sv_I r) ∧ sv_R r ∧ sm_ok S' ∧ sv_mod [] S S' ∧ (True)
theorem la_told_0 {x0 : Int} (h0 : x0 = 1) : 0 ≤ x0 := by omega
theorem la_told_1 {x0 : Int} (h0 : 0 ≤ x0) (h1 : ¬ x0 = 0) : 0 < x0 := by omega
set_option maxHeartbeats 2000000 in
theorem f_told : ∀ (p1 : Int) (p2 : Int) (p3 : Int) (S : sv_S), sm_ok S → sv_R p1 → sv_R p2 → sv_R p3 → (((¬ p3 = (0 : Int)) → (((p3 = (1 : Int)) → (((p1 < (5 : Int)) → (True)) ∧ ((¬ (p1 < (5 : Int))) → ((((7 : Int) < p1) → (True)) ∧ ((¬ ((7 : Int) < p1)) → (True)))))) ∧ ((¬ (p3 = (1 : Int))) → (True)))) ∧ ((¬ (¬ p3 = (0 : Int))) → (True))) := by
  intro p1
  intro p2
  intro p3
  intro S
  intro h1_
  intro h2_
  intro h3_
  intro h4_
  refine ⟨?_, ?_⟩
  · skip
    intro h5_
    refine ⟨?_, ?_⟩
    · skip
      intro h6_
      refine ⟨?_, ?_⟩
      · skip
        intro h7_
        exact trivial
      intro h8_
      refine ⟨?_, ?_⟩
      · skip
        intro h9_
        exact trivial
      intro h10_
      exact trivial
    intro h11_
    exact trivial
  intro h12_
  exact trivial
set_option maxRecDepth 8000 in
set_option maxHeartbeats 2000000 in
theorem t_told : ∀ (p1 : Int) (p2 : Int) (p3 : Int) (S : sv_S), sm_ok S → sv_R p1 → sv_R p2 → sv_R p3 → sv_T sm_XS sm_cs sm_L sm_sh 0 (q_told p1 p2 p3 S) 196 0 (lv_args 0 [.ref 0, sv_I p1, sv_I p2, sv_I p3]) [] S := by
  intro p1 p2 p3 S hok hp1 hp2 hp3
  have h := f_told p1 p2 p3 S hok hp1 hp2 hp3
  have hM := sm_h196
  show sv_T sm_XS sm_cs sm_L sm_sh 0 (q_told p1 p2 p3 S) 196 0 [(0, .ref 0), (1, sv_I p1), (2, sv_I p2), (3, sv_I p3)] [] S
  refine sv_iload_n hM dX12_told_0 rfl rfl ?_
  refine sv_cond_ne hM dX12_told_1 hp3 (t := 6) rfl rfl (fun hc => ?_) (fun hc => ?_)
  · have h := h.1 (hc)
    refine sv_iload_n hM dX12_told_6 rfl rfl ?_
    refine sv_iconst (d := (1 : Int)) hM dX12_told_7 rfl rfl ?_
    refine sv_icmp_eq hM dX12_told_8 hp3 (⟨by decide, by decide⟩ : sv_R (1 : Int)) (t := 13) rfl rfl (fun hc => ?_) (fun hc => ?_)
    · have h := h.1 (hc)
      refine sv_iload_n hM dX12_told_13 rfl rfl ?_
      refine sv_iconst (d := (5 : Int)) hM dX12_told_14 rfl rfl ?_
      refine sv_icmp_lt hM dX12_told_15 hp1 (⟨by decide, by decide⟩ : sv_R (5 : Int)) (t := 28) rfl rfl (fun hc => ?_) (fun hc => ?_)
      · have h := h.1 (hc)
        refine sv_iconst (d := (0 : Int)) hM dX12_told_28 rfl rfl ?_
        exact sv_iret hM dX12_told_29 rfl rfl ⟨(0 : Int), rfl, (⟨by decide, by decide⟩ : sv_R (0 : Int)), hok, sv_mod.rf, h⟩
      · have h := h.2 (hc)
        refine sv_iload_n hM dX12_told_18 rfl rfl ?_
        refine sv_bipush (d := (7 : Int)) hM dX12_told_19 rfl rfl ?_
        refine sv_icmp_gt hM dX12_told_21 hp1 (⟨by decide, by decide⟩ : sv_R (7 : Int)) (t := 28) rfl rfl (fun hc => ?_) (fun hc => ?_)
        · have h := h.1 (hc)
          refine sv_iconst (d := (0 : Int)) hM dX12_told_28 rfl rfl ?_
          exact sv_iret hM dX12_told_29 rfl rfl ⟨(0 : Int), rfl, (⟨by decide, by decide⟩ : sv_R (0 : Int)), hok, sv_mod.rf, h⟩
        · have h := h.2 (hc)
          refine sv_iload_n hM dX12_told_24 rfl rfl ?_
          refine sv_goto hM dX12_told_25 (pc' := 29) rfl ?_
          exact sv_iret hM dX12_told_29 rfl rfl ⟨p2, rfl, hp2, hok, sv_mod.rf, h⟩
    · have h := h.2 (hc)
      refine sv_iconst (d := (-1 : Int)) hM dX12_told_11 rfl rfl ?_
      exact sv_iret hM dX12_told_12 rfl rfl ⟨(-1 : Int), rfl, (⟨by decide, by decide⟩ : sv_R (-1 : Int)), hok, sv_mod.rf, h⟩
  · have h := h.2 (hc)
    refine sv_iload_n hM dX12_told_4 rfl rfl ?_
    exact sv_iret hM dX12_told_5 rfl rfl ⟨p1, rfl, hp1, hok, sv_mod.rf, h⟩
def q_argumentSort (p1 : Int) (S : sv_S) : Option Value → sv_S → Prop := fun v S' => ∃ r : Int, v = some (sv_I r) ∧ sv_R r ∧ sm_ok S' ∧ sv_mod [] S S' ∧ ((p1 < (S' 1115 0) → r = (S' 63 ((S' 1114 0) + p1))) ∧ (¬ p1 < (S' 1115 0) → r = 0))
theorem la_argumentSort_0 {x0 x1 x2 : Int} : x0 ≤ x1 → (x1 < x0 → 0 = x2) ∧ (¬ x1 < x0 → (0 : Int) = 0) := by omega
theorem la_argumentSort_1 {x0 x1 : Int} (h0 : ¬ x0 ≤ x1) : x1 < x0 := by omega
theorem la_argumentSort_2 {x0 x1 : Int} (h0 : 0 ≤ x0 + x1) (h1 : x0 + x1 < 9600) : 0 ≤ x0 + x1 ∧ x0 + x1 < 9600 := by omega
theorem la_argumentSort_3 {x0 x1 x2 : Int} : x0 < x1 → x2 = x2 := by omega
theorem la_argumentSort_4 {x0 x1 : Int} (h0 : ¬ x0 ≤ x1) (h1 : ¬ x1 < x0) : False := by omega
set_option maxHeartbeats 2000000 in
theorem f_argumentSort : ∀ (p1 : Int) (S : sv_S), sm_ok S → sv_R p1 → (p1 < (S 1115 0) → 0 ≤ (S 1114 0) + p1 ∧ (S 1114 0) + p1 < 9600) → (sv_R (S 1115 0) → ((((S 1115 0) ≤ p1) → ((p1 < (S 1115 0) → (0 : Int) = (S 63 ((S 1114 0) + p1))) ∧ (¬ p1 < (S 1115 0) → (0 : Int) = 0))) ∧ ((¬ ((S 1115 0) ≤ p1)) → (sv_R (S 1114 0) → (0 ≤ ((S 1114 0) + p1) ∧ ((S 1114 0) + p1) < 9600) ∧ (sv_R (S 63 ((S 1114 0) + p1)) → ((p1 < (S 1115 0) → (S 63 ((S 1114 0) + p1)) = (S 63 ((S 1114 0) + p1))) ∧ (¬ p1 < (S 1115 0) → (S 63 ((S 1114 0) + p1)) = 0))))))) := by
  intro p1
  intro S
  intro h1_
  intro h2_
  intro h3_
  intro h4_
  refine ⟨la_argumentSort_0, ?_⟩
  intro h5_
  obtain ⟨h6_, h7_⟩ := (h3_ (la_argumentSort_1 h5_))
  intro h8_
  refine ⟨(la_argumentSort_2 h6_ h7_), ?_⟩
  intro h9_
  refine ⟨la_argumentSort_3, ?_⟩
  intro h10_
  exact ((la_argumentSort_4 h5_ h10_)).elim
set_option maxRecDepth 8000 in
set_option maxHeartbeats 2000000 in
theorem t_argumentSort : ∀ (p1 : Int) (S : sv_S), sm_ok S → sv_R p1 → (p1 < (S 1115 0) → 0 ≤ (S 1114 0) + p1 ∧ (S 1114 0) + p1 < 9600) → sv_T sm_XS sm_cs sm_L sm_sh 0 (q_argumentSort p1 S) 178 0 (lv_args 0 [.ref 0, sv_I p1]) [] S := by
  intro p1 S hok hp1 hpre
  have h := f_argumentSort p1 S hok hp1 hpre
  have hM := sm_h178
  show sv_T sm_XS sm_cs sm_L sm_sh 0 (q_argumentSort p1 S) 178 0 [(0, .ref 0), (1, sv_I p1)] [] S
  refine sv_iload_n hM dX12_argumentSort_0 rfl rfl ?_
  refine sv_aload_n hM dX12_argumentSort_1 rfl rfl ?_
  have k1 : sv_R (S 1115 0) := sm_okI hok sm_r1115 0
  have h := h k1
  refine sv_getI hM dX12_argumentSort_2 sm_fl_995 (sm_a0 _) sm_k115 rfl (x := (S 1115 0)) rfl ?_
  refine sv_icmp_ge hM dX12_argumentSort_5 hp1 k1 (t := 22) rfl rfl (fun hc => ?_) (fun hc => ?_)
  · have h := h.1 (hc)
    refine sv_iconst (d := (0 : Int)) hM dX12_argumentSort_22 rfl rfl ?_
    exact sv_iret hM dX12_argumentSort_23 rfl rfl ⟨(0 : Int), rfl, (⟨by decide, by decide⟩ : sv_R (0 : Int)), hok, sv_mod.rf, h⟩
  · have h := h.2 (hc)
    refine sv_aload_n hM dX12_argumentSort_8 rfl rfl ?_
    refine sv_getA hM dX12_argumentSort_9 sm_fl_200 (sm_a0 _) sm_k103 rfl ?_
    refine sv_aload_n hM dX12_argumentSort_12 rfl rfl ?_
    have k2 : sv_R (S 1114 0) := sm_okI hok sm_r1114 0
    have h := h k2
    refine sv_getI hM dX12_argumentSort_13 sm_fl_998 (sm_a0 _) sm_k114 rfl (x := (S 1114 0)) rfl ?_
    refine sv_iload_n hM dX12_argumentSort_16 rfl rfl ?_
    refine sv_iadd hM dX12_argumentSort_17 rfl ?_
    obtain ⟨o3, h⟩ := h
    have k4 : sv_R (S 63 ((S 1114 0) + p1)) := sm_okI hok sm_r63 ((S 1114 0) + p1)
    have h := h k4
    refine sv_iald hM dX12_argumentSort_18 (sm_a63 _) (by decide) o3.1 o3.2 rfl (x := (S 63 ((S 1114 0) + p1))) rfl ?_
    refine sv_goto hM dX12_argumentSort_19 (pc' := 23) rfl ?_
    exact sv_iret hM dX12_argumentSort_23 rfl rfl ⟨(S 63 ((S 1114 0) + p1)), rfl, k4, hok, sv_mod.rf, h⟩
def q_argument (p1 : Int) (S : sv_S) : Option Value → sv_S → Prop := fun v S' => ∃ r : Int, v = some (sv_I r) ∧ sv_R r ∧ sm_ok S' ∧ sv_mod [] S S' ∧ ((p1 < (S' 1115 0) → r = (S' 64 ((S' 1114 0) + p1))) ∧ (¬ p1 < (S' 1115 0) → r = 0))
theorem la_argument_0 {x0 x1 x2 : Int} : x0 ≤ x1 → (x1 < x0 → 0 = x2) ∧ (¬ x1 < x0 → (0 : Int) = 0) := by omega
theorem la_argument_1 {x0 x1 : Int} (h0 : ¬ x0 ≤ x1) : x1 < x0 := by omega
theorem la_argument_2 {x0 x1 : Int} (h0 : 0 ≤ x0 + x1) (h1 : x0 + x1 < 9600) : 0 ≤ x0 + x1 ∧ x0 + x1 < 9600 := by omega
theorem la_argument_3 {x0 x1 x2 : Int} : x0 < x1 → x2 = x2 := by omega
theorem la_argument_4 {x0 x1 : Int} (h0 : ¬ x0 ≤ x1) (h1 : ¬ x1 < x0) : False := by omega
set_option maxHeartbeats 2000000 in
theorem f_argument : ∀ (p1 : Int) (S : sv_S), sm_ok S → sv_R p1 → (p1 < (S 1115 0) → 0 ≤ (S 1114 0) + p1 ∧ (S 1114 0) + p1 < 9600) → (sv_R (S 1115 0) → ((((S 1115 0) ≤ p1) → ((p1 < (S 1115 0) → (0 : Int) = (S 64 ((S 1114 0) + p1))) ∧ (¬ p1 < (S 1115 0) → (0 : Int) = 0))) ∧ ((¬ ((S 1115 0) ≤ p1)) → (sv_R (S 1114 0) → (0 ≤ ((S 1114 0) + p1) ∧ ((S 1114 0) + p1) < 9600) ∧ (sv_R (S 64 ((S 1114 0) + p1)) → ((p1 < (S 1115 0) → (S 64 ((S 1114 0) + p1)) = (S 64 ((S 1114 0) + p1))) ∧ (¬ p1 < (S 1115 0) → (S 64 ((S 1114 0) + p1)) = 0))))))) := by
  intro p1
  intro S
  intro h1_
  intro h2_
  intro h3_
  intro h4_
  refine ⟨la_argument_0, ?_⟩
  intro h5_
  obtain ⟨h6_, h7_⟩ := (h3_ (la_argument_1 h5_))
  intro h8_
  refine ⟨(la_argument_2 h6_ h7_), ?_⟩
  intro h9_
  refine ⟨la_argument_3, ?_⟩
  intro h10_
  exact ((la_argument_4 h5_ h10_)).elim
set_option maxRecDepth 8000 in
set_option maxHeartbeats 2000000 in
theorem t_argument : ∀ (p1 : Int) (S : sv_S), sm_ok S → sv_R p1 → (p1 < (S 1115 0) → 0 ≤ (S 1114 0) + p1 ∧ (S 1114 0) + p1 < 9600) → sv_T sm_XS sm_cs sm_L sm_sh 0 (q_argument p1 S) 179 0 (lv_args 0 [.ref 0, sv_I p1]) [] S := by
  intro p1 S hok hp1 hpre
  have h := f_argument p1 S hok hp1 hpre
  have hM := sm_h179
  show sv_T sm_XS sm_cs sm_L sm_sh 0 (q_argument p1 S) 179 0 [(0, .ref 0), (1, sv_I p1)] [] S
  refine sv_iload_n hM dX12_argument_0 rfl rfl ?_
  refine sv_aload_n hM dX12_argument_1 rfl rfl ?_
  have k1 : sv_R (S 1115 0) := sm_okI hok sm_r1115 0
  have h := h k1
  refine sv_getI hM dX12_argument_2 sm_fl_995 (sm_a0 _) sm_k115 rfl (x := (S 1115 0)) rfl ?_
  refine sv_icmp_ge hM dX12_argument_5 hp1 k1 (t := 22) rfl rfl (fun hc => ?_) (fun hc => ?_)
  · have h := h.1 (hc)
    refine sv_iconst (d := (0 : Int)) hM dX12_argument_22 rfl rfl ?_
    exact sv_iret hM dX12_argument_23 rfl rfl ⟨(0 : Int), rfl, (⟨by decide, by decide⟩ : sv_R (0 : Int)), hok, sv_mod.rf, h⟩
  · have h := h.2 (hc)
    refine sv_aload_n hM dX12_argument_8 rfl rfl ?_
    refine sv_getA hM dX12_argument_9 sm_fl_203 (sm_a0 _) sm_k104 rfl ?_
    refine sv_aload_n hM dX12_argument_12 rfl rfl ?_
    have k2 : sv_R (S 1114 0) := sm_okI hok sm_r1114 0
    have h := h k2
    refine sv_getI hM dX12_argument_13 sm_fl_998 (sm_a0 _) sm_k114 rfl (x := (S 1114 0)) rfl ?_
    refine sv_iload_n hM dX12_argument_16 rfl rfl ?_
    refine sv_iadd hM dX12_argument_17 rfl ?_
    obtain ⟨o3, h⟩ := h
    have k4 : sv_R (S 64 ((S 1114 0) + p1)) := sm_okI hok sm_r64 ((S 1114 0) + p1)
    have h := h k4
    refine sv_iald hM dX12_argument_18 (sm_a64 _) (by decide) o3.1 o3.2 rfl (x := (S 64 ((S 1114 0) + p1))) rfl ?_
    refine sv_goto hM dX12_argument_19 (pc' := 23) rfl ?_
    exact sv_iret hM dX12_argument_23 rfl rfl ⟨(S 64 ((S 1114 0) + p1)), rfl, k4, hok, sv_mod.rf, h⟩
def q_isFunction (p1 : Int) (p2 : Int) (S : sv_S) : Option Value → sv_S → Prop := fun v S' => ∃ r : Int, v = some (sv_I r) ∧ sv_R r ∧ sm_ok S' ∧ sv_mod [] S S' ∧ ((r = 0 ∨ r = 1) ∧ (r = 1 → p1 = 7 ∧ (S' 44 p2) = 1) ∧ (r = 0 → p1 = 7 → ¬ (S' 44 p2) = 1))
theorem la_isFunction_0 : (0 : Int) = 0 ∨ (0 : Int) = 1 := by omega
theorem la_isFunction_1 {x0 x1 : Int} : (0 : Int) = 1 → x0 = 7 ∧ x1 = 1 := by omega
theorem la_isFunction_2 {x0 : Int} (h0 : x0 = 7) : x0 ≤ 7 := by omega
theorem la_isFunction_3 {x0 : Int} (h0 : x0 ≤ 7) (h1 : ¬ x0 = 7) : x0 < 7 := by omega
theorem la_isFunction_4 {x0 : Int} (h0 : x0 = 7) (h1 : x0 < 7) : False := by omega
theorem la_isFunction_5 {x0 : Int} (h0 : ¬ ¬ x0 = 7) : x0 = 7 := by omega
theorem la_isFunction_6 {x0 : Int} (h0 : 0 ≤ x0) (h1 : x0 < 300) : 0 ≤ x0 ∧ x0 < 300 := by omega
theorem la_isFunction_7 : (1 : Int) = 0 ∨ (1 : Int) = 1 := by omega
theorem la_isFunction_8 {x0 x1 : Int} (h0 : ¬ ¬ x0 = 7) (h1 : ¬ ¬ x1 = 1) : (1 : Int) = 1 → x0 = 7 ∧ x1 = 1 := by omega
theorem la_isFunction_9 {x0 : Int} (h0 : (1 : Int) = 0) : ¬ x0 = 1 := by omega
set_option maxHeartbeats 2000000 in
theorem f_isFunction : ∀ (p1 : Int) (p2 : Int) (S : sv_S), sm_ok S → sv_R p1 → sv_R p2 → (p1 = 7 → 0 ≤ p2 ∧ p2 < 300) → (((¬ p1 = (7 : Int)) → (((0 : Int) = 0 ∨ (0 : Int) = 1) ∧ ((0 : Int) = 1 → p1 = 7 ∧ (S 44 p2) = 1) ∧ ((0 : Int) = 0 → p1 = 7 → ¬ (S 44 p2) = 1))) ∧ ((¬ (¬ p1 = (7 : Int))) → (0 ≤ p2 ∧ p2 < 300) ∧ (sv_R (S 44 p2) → (((¬ (S 44 p2) = (1 : Int)) → (((0 : Int) = 0 ∨ (0 : Int) = 1) ∧ ((0 : Int) = 1 → p1 = 7 ∧ (S 44 p2) = 1) ∧ ((0 : Int) = 0 → p1 = 7 → ¬ (S 44 p2) = 1))) ∧ ((¬ (¬ (S 44 p2) = (1 : Int))) → (((1 : Int) = 0 ∨ (1 : Int) = 1) ∧ ((1 : Int) = 1 → p1 = 7 ∧ (S 44 p2) = 1) ∧ ((1 : Int) = 0 → p1 = 7 → ¬ (S 44 p2) = 1))))))) := by
  intro p1
  intro p2
  intro S
  intro h1_
  intro h2_
  intro h3_
  intro h4_
  refine ⟨?_, ?_⟩
  · skip
    intro h5_
    refine ⟨la_isFunction_0, ?_⟩
    refine ⟨la_isFunction_1, ?_⟩
    intro h6_
    intro h7_
    exact ((la_isFunction_4 h7_ (la_isFunction_3 (la_isFunction_2 h7_) h5_))).elim
  intro h8_
  obtain ⟨h9_, h10_⟩ := (h4_ (la_isFunction_5 h8_))
  refine ⟨(la_isFunction_6 h9_ h10_), ?_⟩
  intro h11_
  refine ⟨?_, ?_⟩
  · skip
    intro h12_
    refine ⟨la_isFunction_0, ?_⟩
    refine ⟨la_isFunction_1, ?_⟩
    intro h13_
    intro h14_
    exact h12_
  intro h15_
  refine ⟨la_isFunction_7, ?_⟩
  refine ⟨(la_isFunction_8 h8_ h15_), ?_⟩
  intro h16_
  intro h17_
  exact (la_isFunction_9 h16_)
set_option maxRecDepth 8000 in
set_option maxHeartbeats 2000000 in
theorem t_isFunction : ∀ (p1 : Int) (p2 : Int) (S : sv_S), sm_ok S → sv_R p1 → sv_R p2 → (p1 = 7 → 0 ≤ p2 ∧ p2 < 300) → sv_T sm_XS sm_cs sm_L sm_sh 0 (q_isFunction p1 p2 S) 176 0 (lv_args 0 [.ref 0, sv_I p1, sv_I p2]) [] S := by
  intro p1 p2 S hok hp1 hp2 hpre
  have h := f_isFunction p1 p2 S hok hp1 hp2 hpre
  have hM := sm_h176
  show sv_T sm_XS sm_cs sm_L sm_sh 0 (q_isFunction p1 p2 S) 176 0 [(0, .ref 0), (1, sv_I p1), (2, sv_I p2)] [] S
  refine sv_iload_n hM dX12_isFunction_0 rfl rfl ?_
  refine sv_bipush (d := (7 : Int)) hM dX12_isFunction_1 rfl rfl ?_
  refine sv_icmp_ne hM dX12_isFunction_3 hp1 (⟨by decide, by decide⟩ : sv_R (7 : Int)) (t := 20) rfl rfl (fun hc => ?_) (fun hc => ?_)
  · have h := h.1 (hc)
    refine sv_iconst (d := (0 : Int)) hM dX12_isFunction_20 rfl rfl ?_
    exact sv_iret hM dX12_isFunction_21 rfl (sv_nz (⟨by decide, by decide⟩ : 0 ≤ (0 : Int) ∧ (0 : Int) ≤ 1)) ⟨(0 : Int), rfl, sv_R01 (⟨by decide, by decide⟩ : 0 ≤ (0 : Int) ∧ (0 : Int) ≤ 1), hok, sv_mod.rf, h⟩
  · have h := h.2 (hc)
    refine sv_aload_n hM dX12_isFunction_6 rfl rfl ?_
    refine sv_getA hM dX12_isFunction_7 sm_fl_143 (sm_a0 _) sm_k80 rfl ?_
    refine sv_iload_n hM dX12_isFunction_10 rfl rfl ?_
    obtain ⟨o1, h⟩ := h
    have k2 : sv_R (S 44 p2) := sm_okI hok sm_r44 p2
    have h := h k2
    refine sv_iald hM dX12_isFunction_11 (sm_a44 _) (by decide) o1.1 o1.2 rfl (x := (S 44 p2)) rfl ?_
    refine sv_iconst (d := (1 : Int)) hM dX12_isFunction_12 rfl rfl ?_
    refine sv_icmp_ne hM dX12_isFunction_13 k2 (⟨by decide, by decide⟩ : sv_R (1 : Int)) (t := 20) rfl rfl (fun hc => ?_) (fun hc => ?_)
    · have h := h.1 (hc)
      refine sv_iconst (d := (0 : Int)) hM dX12_isFunction_20 rfl rfl ?_
      exact sv_iret hM dX12_isFunction_21 rfl (sv_nz (⟨by decide, by decide⟩ : 0 ≤ (0 : Int) ∧ (0 : Int) ≤ 1)) ⟨(0 : Int), rfl, sv_R01 (⟨by decide, by decide⟩ : 0 ≤ (0 : Int) ∧ (0 : Int) ≤ 1), hok, sv_mod.rf, h⟩
    · have h := h.2 (hc)
      refine sv_iconst (d := (1 : Int)) hM dX12_isFunction_16 rfl rfl ?_
      refine sv_goto hM dX12_isFunction_17 (pc' := 21) rfl ?_
      exact sv_iret hM dX12_isFunction_21 rfl (sv_nz (⟨by decide, by decide⟩ : 0 ≤ (1 : Int) ∧ (1 : Int) ≤ 1)) ⟨(1 : Int), rfl, sv_R01 (⟨by decide, by decide⟩ : 0 ≤ (1 : Int) ∧ (1 : Int) ≤ 1), hok, sv_mod.rf, h⟩
def q_typeOf (p1 : Int) (p2 : Int) (S : sv_S) : Option Value → sv_S → Prop := fun v S' => ∃ r : Int, v = some (sv_I r) ∧ sv_R r ∧ sm_ok S' ∧ sv_mod [] S S' ∧ (19 ≤ r ∧ r ≤ 24)
theorem la_typeOf_0 {x0 : Int} (h0 : 0 ≤ x0) (h1 : ¬ x0 = 0) : 0 < x0 := by omega
theorem la_typeOf_1 {x0 : Int} (h0 : 0 < x0) : 1 ≤ x0 := by omega
theorem la_typeOf_2 {x0 : Int} (h0 : 1 ≤ x0) (h1 : ¬ x0 = 1) : 1 < x0 := by omega
theorem la_typeOf_3 {x0 : Int} : x0 = 2 → (19 : Int) ≤ 21 ∧ (21 : Int) ≤ 24 := by omega
theorem la_typeOf_4 {x0 : Int} (h0 : 1 < x0) : 2 ≤ x0 := by omega
theorem la_typeOf_5 {x0 : Int} (h0 : 2 ≤ x0) (h1 : ¬ x0 = 2) : 2 < x0 := by omega
theorem la_typeOf_6 {x0 : Int} (h0 : 2 < x0) : 3 ≤ x0 := by omega
theorem la_typeOf_7 {x0 : Int} (h0 : 3 ≤ x0) (h1 : ¬ x0 = 3) : 3 < x0 := by omega
theorem la_typeOf_8 {x0 : Int} : x0 = 4 → (19 : Int) ≤ 22 ∧ (22 : Int) ≤ 24 := by omega
theorem la_typeOf_9 {x0 : Int} (h0 : 3 < x0) : 4 ≤ x0 := by omega
theorem la_typeOf_10 {x0 : Int} (h0 : 4 ≤ x0) (h1 : ¬ x0 = 4) : 4 < x0 := by omega
theorem la_typeOf_11 {x0 : Int} (h0 : 4 < x0) : 5 ≤ x0 := by omega
theorem la_typeOf_12 {x0 : Int} (h0 : 5 ≤ x0) (h1 : ¬ x0 = 5) : 5 < x0 := by omega
theorem la_typeOf_13 {x0 x1 x2 : Int} (h0 : x0 = 7 → 0 ≤ x1 ∧ x1 < 300) (h1 : x0 ≤ 7) (h2 : 5 < x0) : ¬ x0 = 6 → (0 ≤ x1 ∧ x1 < 300) ∧ (sv_R x2 → (¬ x2 = 1 → (19 : Int) ≤ 20 ∧ (20 : Int) ≤ 24) ∧ (¬ ¬ x2 = 1 → (19 : Int) ≤ 24 ∧ (24 : Int) ≤ 24)) := by omega
theorem la_typeOf_14 {x0 : Int} (h0 : ¬ ¬ x0 = 6) : ¬ x0 = 7 := by omega
theorem la_typeOf_15 : (19 : Int) ≤ 23 := by omega
theorem la_typeOf_16 : (23 : Int) ≤ 24 := by omega
theorem la_typeOf_17 {x0 : Int} (h0 : ¬ ¬ x0 = 5) : ¬ x0 = 7 := by omega
theorem la_typeOf_18 : (19 : Int) ≤ 22 := by omega
theorem la_typeOf_19 : (22 : Int) ≤ 24 := by omega
theorem la_typeOf_20 {x0 : Int} (h0 : ¬ ¬ x0 = 3) : ¬ x0 = 7 := by omega
theorem la_typeOf_21 : (19 : Int) ≤ 21 := by omega
theorem la_typeOf_22 : (21 : Int) ≤ 24 := by omega
theorem la_typeOf_23 {x0 : Int} (h0 : ¬ ¬ x0 = 1) : ¬ x0 = 7 := by omega
theorem la_typeOf_24 : (19 : Int) ≤ 20 := by omega
theorem la_typeOf_25 : (20 : Int) ≤ 24 := by omega
theorem la_typeOf_26 {x0 : Int} (h0 : ¬ ¬ x0 = 0) : ¬ x0 = 7 := by omega
theorem la_typeOf_27 : (19 : Int) ≤ 19 := by omega
theorem la_typeOf_28 : (19 : Int) ≤ 24 := by omega
set_option maxHeartbeats 2000000 in
theorem f_typeOf : ∀ (p1 : Int) (p2 : Int) (S : sv_S), sm_ok S → sv_R p1 → sv_R p2 → ((p1 = 7 → 0 ≤ p2 ∧ p2 < 300) ∧ 0 ≤ p1 ∧ p1 ≤ 7) → (((¬ p1 = (0 : Int)) → (((¬ p1 = (1 : Int)) → (((p1 = (2 : Int)) → (19 ≤ (21 : Int) ∧ (21 : Int) ≤ 24)) ∧ ((¬ (p1 = (2 : Int))) → (((¬ p1 = (3 : Int)) → (((p1 = (4 : Int)) → (19 ≤ (22 : Int) ∧ (22 : Int) ≤ 24)) ∧ ((¬ (p1 = (4 : Int))) → (((¬ p1 = (5 : Int)) → (((¬ p1 = (6 : Int)) → (0 ≤ p2 ∧ p2 < 300) ∧ (sv_R (S 44 p2) → (((¬ (S 44 p2) = (1 : Int)) → (19 ≤ (20 : Int) ∧ (20 : Int) ≤ 24)) ∧ ((¬ (¬ (S 44 p2) = (1 : Int))) → (19 ≤ (24 : Int) ∧ (24 : Int) ≤ 24))))) ∧ ((¬ (¬ p1 = (6 : Int))) → (19 ≤ (23 : Int) ∧ (23 : Int) ≤ 24)))) ∧ ((¬ (¬ p1 = (5 : Int))) → (19 ≤ (22 : Int) ∧ (22 : Int) ≤ 24)))))) ∧ ((¬ (¬ p1 = (3 : Int))) → (19 ≤ (21 : Int) ∧ (21 : Int) ≤ 24)))))) ∧ ((¬ (¬ p1 = (1 : Int))) → (19 ≤ (20 : Int) ∧ (20 : Int) ≤ 24)))) ∧ ((¬ (¬ p1 = (0 : Int))) → (19 ≤ (19 : Int) ∧ (19 : Int) ≤ 24))) := by
  intro p1
  intro p2
  intro S
  intro h1_
  intro h2_
  intro h3_
  rintro ⟨h4_, ⟨h5_, h6_⟩⟩
  refine ⟨?_, ?_⟩
  · skip
    intro h7_
    refine ⟨?_, ?_⟩
    · skip
      intro h8_
      refine ⟨la_typeOf_3, ?_⟩
      intro h9_
      refine ⟨?_, ?_⟩
      · skip
        intro h10_
        refine ⟨la_typeOf_8, ?_⟩
        intro h11_
        refine ⟨?_, ?_⟩
        · skip
          intro h12_
          refine ⟨(la_typeOf_13 h4_ h6_ (la_typeOf_12 (la_typeOf_11 (la_typeOf_10 (la_typeOf_9 (la_typeOf_7 (la_typeOf_6 (la_typeOf_5 (la_typeOf_4 (la_typeOf_2 (la_typeOf_1 (la_typeOf_0 h5_ h7_)) h8_)) h9_)) h10_)) h11_)) h12_)), ?_⟩
          intro h13_
          refine ⟨la_typeOf_15, ?_⟩
          exact la_typeOf_16
        intro h14_
        refine ⟨la_typeOf_18, ?_⟩
        exact la_typeOf_19
      intro h15_
      refine ⟨la_typeOf_21, ?_⟩
      exact la_typeOf_22
    intro h16_
    refine ⟨la_typeOf_24, ?_⟩
    exact la_typeOf_25
  intro h17_
  refine ⟨la_typeOf_27, ?_⟩
  exact la_typeOf_28
set_option maxRecDepth 8000 in
set_option maxHeartbeats 2000000 in
theorem t_typeOf : ∀ (p1 : Int) (p2 : Int) (S : sv_S), sm_ok S → sv_R p1 → sv_R p2 → ((p1 = 7 → 0 ≤ p2 ∧ p2 < 300) ∧ 0 ≤ p1 ∧ p1 ≤ 7) → sv_T sm_XS sm_cs sm_L sm_sh 0 (q_typeOf p1 p2 S) 169 0 (lv_args 0 [.ref 0, sv_I p1, sv_I p2]) [] S := by
  intro p1 p2 S hok hp1 hp2 hpre
  have h := f_typeOf p1 p2 S hok hp1 hp2 hpre
  have hM := sm_h169
  show sv_T sm_XS sm_cs sm_L sm_sh 0 (q_typeOf p1 p2 S) 169 0 [(0, .ref 0), (1, sv_I p1), (2, sv_I p2)] [] S
  refine sv_iload_n hM dX12_typeOf_0 rfl rfl ?_
  refine sv_cond_ne hM dX12_typeOf_1 hp1 (t := 7) rfl rfl (fun hc => ?_) (fun hc => ?_)
  · have h := h.1 (hc)
    refine sv_iload_n hM dX12_typeOf_7 rfl rfl ?_
    refine sv_iconst (d := (1 : Int)) hM dX12_typeOf_8 rfl rfl ?_
    refine sv_icmp_ne hM dX12_typeOf_9 hp1 (⟨by decide, by decide⟩ : sv_R (1 : Int)) (t := 15) rfl rfl (fun hc => ?_) (fun hc => ?_)
    · have h := h.1 (hc)
      refine sv_iload_n hM dX12_typeOf_15 rfl rfl ?_
      refine sv_iconst (d := (2 : Int)) hM dX12_typeOf_16 rfl rfl ?_
      refine sv_icmp_eq hM dX12_typeOf_17 hp1 (⟨by decide, by decide⟩ : sv_R (2 : Int)) (t := 25) rfl rfl (fun hc => ?_) (fun hc => ?_)
      · have h := h.1 (hc)
        refine sv_bipush (d := (21 : Int)) hM dX12_typeOf_25 rfl rfl ?_
        exact sv_iret hM dX12_typeOf_27 rfl rfl ⟨(21 : Int), rfl, (⟨by decide, by decide⟩ : sv_R (21 : Int)), hok, sv_mod.rf, h⟩
      · have h := h.2 (hc)
        refine sv_iload_n hM dX12_typeOf_20 rfl rfl ?_
        refine sv_iconst (d := (3 : Int)) hM dX12_typeOf_21 rfl rfl ?_
        refine sv_icmp_ne hM dX12_typeOf_22 hp1 (⟨by decide, by decide⟩ : sv_R (3 : Int)) (t := 28) rfl rfl (fun hc => ?_) (fun hc => ?_)
        · have h := h.1 (hc)
          refine sv_iload_n hM dX12_typeOf_28 rfl rfl ?_
          refine sv_iconst (d := (4 : Int)) hM dX12_typeOf_29 rfl rfl ?_
          refine sv_icmp_eq hM dX12_typeOf_30 hp1 (⟨by decide, by decide⟩ : sv_R (4 : Int)) (t := 38) rfl rfl (fun hc => ?_) (fun hc => ?_)
          · have h := h.1 (hc)
            refine sv_bipush (d := (22 : Int)) hM dX12_typeOf_38 rfl rfl ?_
            exact sv_iret hM dX12_typeOf_40 rfl rfl ⟨(22 : Int), rfl, (⟨by decide, by decide⟩ : sv_R (22 : Int)), hok, sv_mod.rf, h⟩
          · have h := h.2 (hc)
            refine sv_iload_n hM dX12_typeOf_33 rfl rfl ?_
            refine sv_iconst (d := (5 : Int)) hM dX12_typeOf_34 rfl rfl ?_
            refine sv_icmp_ne hM dX12_typeOf_35 hp1 (⟨by decide, by decide⟩ : sv_R (5 : Int)) (t := 41) rfl rfl (fun hc => ?_) (fun hc => ?_)
            · have h := h.1 (hc)
              refine sv_iload_n hM dX12_typeOf_41 rfl rfl ?_
              refine sv_bipush (d := (6 : Int)) hM dX12_typeOf_42 rfl rfl ?_
              refine sv_icmp_ne hM dX12_typeOf_44 hp1 (⟨by decide, by decide⟩ : sv_R (6 : Int)) (t := 52) rfl rfl (fun hc => ?_) (fun hc => ?_)
              · have h := h.1 (hc)
                refine sv_aload_n hM dX12_typeOf_52 rfl rfl ?_
                refine sv_getA hM dX12_typeOf_53 sm_fl_143 (sm_a0 _) sm_k80 rfl ?_
                refine sv_iload_n hM dX12_typeOf_56 rfl rfl ?_
                obtain ⟨o1, h⟩ := h
                have k2 : sv_R (S 44 p2) := sm_okI hok sm_r44 p2
                have h := h k2
                refine sv_iald hM dX12_typeOf_57 (sm_a44 _) (by decide) o1.1 o1.2 rfl (x := (S 44 p2)) rfl ?_
                refine sv_iconst (d := (1 : Int)) hM dX12_typeOf_58 rfl rfl ?_
                refine sv_icmp_ne hM dX12_typeOf_59 k2 (⟨by decide, by decide⟩ : sv_R (1 : Int)) (t := 67) rfl rfl (fun hc => ?_) (fun hc => ?_)
                · have h := h.1 (hc)
                  refine sv_bipush (d := (20 : Int)) hM dX12_typeOf_67 rfl rfl ?_
                  exact sv_iret hM dX12_typeOf_69 rfl rfl ⟨(20 : Int), rfl, (⟨by decide, by decide⟩ : sv_R (20 : Int)), hok, sv_mod.rf, h⟩
                · have h := h.2 (hc)
                  refine sv_bipush (d := (24 : Int)) hM dX12_typeOf_62 rfl rfl ?_
                  refine sv_goto hM dX12_typeOf_64 (pc' := 69) rfl ?_
                  exact sv_iret hM dX12_typeOf_69 rfl rfl ⟨(24 : Int), rfl, (⟨by decide, by decide⟩ : sv_R (24 : Int)), hok, sv_mod.rf, h⟩
              · have h := h.2 (hc)
                refine sv_bipush (d := (23 : Int)) hM dX12_typeOf_47 rfl rfl ?_
                refine sv_goto hM dX12_typeOf_49 (pc' := 69) rfl ?_
                exact sv_iret hM dX12_typeOf_69 rfl rfl ⟨(23 : Int), rfl, (⟨by decide, by decide⟩ : sv_R (23 : Int)), hok, sv_mod.rf, h⟩
            · have h := h.2 (hc)
              refine sv_bipush (d := (22 : Int)) hM dX12_typeOf_38 rfl rfl ?_
              exact sv_iret hM dX12_typeOf_40 rfl rfl ⟨(22 : Int), rfl, (⟨by decide, by decide⟩ : sv_R (22 : Int)), hok, sv_mod.rf, h⟩
        · have h := h.2 (hc)
          refine sv_bipush (d := (21 : Int)) hM dX12_typeOf_25 rfl rfl ?_
          exact sv_iret hM dX12_typeOf_27 rfl rfl ⟨(21 : Int), rfl, (⟨by decide, by decide⟩ : sv_R (21 : Int)), hok, sv_mod.rf, h⟩
    · have h := h.2 (hc)
      refine sv_bipush (d := (20 : Int)) hM dX12_typeOf_12 rfl rfl ?_
      exact sv_iret hM dX12_typeOf_14 rfl rfl ⟨(20 : Int), rfl, (⟨by decide, by decide⟩ : sv_R (20 : Int)), hok, sv_mod.rf, h⟩
  · have h := h.2 (hc)
    refine sv_bipush (d := (19 : Int)) hM dX12_typeOf_4 rfl rfl ?_
    exact sv_iret hM dX12_typeOf_6 rfl rfl ⟨(19 : Int), rfl, (⟨by decide, by decide⟩ : sv_R (19 : Int)), hok, sv_mod.rf, h⟩
