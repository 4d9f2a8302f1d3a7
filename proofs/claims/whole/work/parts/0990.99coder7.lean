theorem dX12_addVariable_0 : decode cX12_addVariable 0 = .ok (.aload_n 0, 1) := by decide +kernel
theorem dX12_addVariable_1 : decode cX12_addVariable 1 = .ok (.iload_n 1, 1) := by decide +kernel
theorem dX12_addVariable_2 : decode cX12_addVariable 2 = .ok (.iload_n 2, 1) := by decide +kernel
theorem dX12_addVariable_3 : decode cX12_addVariable 3 = .ok (.invokevirtual 622, 3) := by decide +kernel
theorem dX12_addVariable_6 : decode cX12_addVariable 6 = .ok (.ifCond .eq 4, 3) := by decide +kernel
theorem dX12_addVariable_9 : decode cX12_addVariable 9 = .ok (.return_, 1) := by decide +kernel
theorem dX12_addVariable_10 : decode cX12_addVariable 10 = .ok (.aload_n 0, 1) := by decide +kernel
theorem dX12_addVariable_11 : decode cX12_addVariable 11 = .ok (.getfield 107, 3) := by decide +kernel
theorem dX12_addVariable_14 : decode cX12_addVariable 14 = .ok (.bipush 100, 2) := by decide +kernel
theorem dX12_addVariable_16 : decode cX12_addVariable 16 = .ok (.iload_n 1, 1) := by decide +kernel
theorem dX12_addVariable_17 : decode cX12_addVariable 17 = .ok (.imul, 1) := by decide +kernel
theorem dX12_addVariable_18 : decode cX12_addVariable 18 = .ok (.aload_n 0, 1) := by decide +kernel
theorem dX12_addVariable_19 : decode cX12_addVariable 19 = .ok (.getfield 110, 3) := by decide +kernel
theorem dX12_addVariable_22 : decode cX12_addVariable 22 = .ok (.iload_n 1, 1) := by decide +kernel
theorem dX12_addVariable_23 : decode cX12_addVariable 23 = .ok (.iaload, 1) := by decide +kernel
theorem dX12_addVariable_24 : decode cX12_addVariable 24 = .ok (.iadd, 1) := by decide +kernel
theorem dX12_addVariable_25 : decode cX12_addVariable 25 = .ok (.iload_n 2, 1) := by decide +kernel
theorem dX12_addVariable_26 : decode cX12_addVariable 26 = .ok (.iastore, 1) := by decide +kernel
theorem dX12_addVariable_27 : decode cX12_addVariable 27 = .ok (.aload_n 0, 1) := by decide +kernel
theorem dX12_addVariable_28 : decode cX12_addVariable 28 = .ok (.getfield 110, 3) := by decide +kernel
theorem dX12_addVariable_31 : decode cX12_addVariable 31 = .ok (.iload_n 1, 1) := by decide +kernel
theorem dX12_addVariable_32 : decode cX12_addVariable 32 = .ok (.dup2, 1) := by decide +kernel
theorem dX12_addVariable_33 : decode cX12_addVariable 33 = .ok (.iaload, 1) := by decide +kernel
theorem dX12_addVariable_34 : decode cX12_addVariable 34 = .ok (.iconst 1, 1) := by decide +kernel
theorem dX12_addVariable_35 : decode cX12_addVariable 35 = .ok (.iadd, 1) := by decide +kernel
theorem dX12_addVariable_36 : decode cX12_addVariable 36 = .ok (.iastore, 1) := by decide +kernel
theorem dX12_addVariable_37 : decode cX12_addVariable 37 = .ok (.return_, 1) := by decide +kernel
theorem dX12_findVariables_0 : decode cX12_findVariables 0 = .ok (.aload_n 0, 1) := by decide +kernel
theorem dX12_findVariables_1 : decode cX12_findVariables 1 = .ok (.getfield 110, 3) := by decide +kernel
theorem dX12_findVariables_4 : decode cX12_findVariables 4 = .ok (.iload_n 1, 1) := by decide +kernel
theorem dX12_findVariables_5 : decode cX12_findVariables 5 = .ok (.iconst 0, 1) := by decide +kernel
theorem dX12_findVariables_6 : decode cX12_findVariables 6 = .ok (.iastore, 1) := by decide +kernel
theorem dX12_findVariables_7 : decode cX12_findVariables 7 = .ok (.iconst 0, 1) := by decide +kernel
theorem dX12_findVariables_8 : decode cX12_findVariables 8 = .ok (.istore_n 2, 1) := by decide +kernel
theorem dX12_findVariables_9 : decode cX12_findVariables 9 = .ok (.iload_n 2, 1) := by decide +kernel
theorem dX12_findVariables_10 : decode cX12_findVariables 10 = .ok (.aload_n 0, 1) := by decide +kernel
theorem dX12_findVariables_11 : decode cX12_findVariables 11 = .ok (.getfield 71, 3) := by decide +kernel
theorem dX12_findVariables_14 : decode cX12_findVariables 14 = .ok (.iload_n 1, 1) := by decide +kernel
theorem dX12_findVariables_15 : decode cX12_findVariables 15 = .ok (.iaload, 1) := by decide +kernel
theorem dX12_findVariables_16 : decode cX12_findVariables 16 = .ok (.if_icmp .ge 25, 3) := by decide +kernel
theorem dX12_findVariables_19 : decode cX12_findVariables 19 = .ok (.aload_n 0, 1) := by decide +kernel
theorem dX12_findVariables_20 : decode cX12_findVariables 20 = .ok (.iload_n 1, 1) := by decide +kernel
theorem dX12_findVariables_21 : decode cX12_findVariables 21 = .ok (.aload_n 0, 1) := by decide +kernel
theorem dX12_findVariables_22 : decode cX12_findVariables 22 = .ok (.getfield 68, 3) := by decide +kernel
theorem dX12_findVariables_25 : decode cX12_findVariables 25 = .ok (.bipush 8, 2) := by decide +kernel
theorem dX12_findVariables_27 : decode cX12_findVariables 27 = .ok (.iload_n 1, 1) := by decide +kernel
theorem dX12_findVariables_28 : decode cX12_findVariables 28 = .ok (.imul, 1) := by decide +kernel
theorem dX12_findVariables_29 : decode cX12_findVariables 29 = .ok (.iload_n 2, 1) := by decide +kernel
theorem dX12_findVariables_30 : decode cX12_findVariables 30 = .ok (.iadd, 1) := by decide +kernel
theorem dX12_findVariables_31 : decode cX12_findVariables 31 = .ok (.iaload, 1) := by decide +kernel
theorem dX12_findVariables_32 : decode cX12_findVariables 32 = .ok (.invokevirtual 750, 3) := by decide +kernel
theorem dX12_findVariables_35 : decode cX12_findVariables 35 = .ok (.iinc 2 1, 3) := by decide +kernel
theorem dX12_findVariables_38 : decode cX12_findVariables 38 = .ok (.goto (-29), 3) := by decide +kernel
theorem dX12_findVariables_41 : decode cX12_findVariables 41 = .ok (.aload_n 0, 1) := by decide +kernel
theorem dX12_findVariables_42 : decode cX12_findVariables 42 = .ok (.getfield 65, 3) := by decide +kernel
theorem dX12_findVariables_45 : decode cX12_findVariables 45 = .ok (.iload_n 1, 1) := by decide +kernel
theorem dX12_findVariables_46 : decode cX12_findVariables 46 = .ok (.baload, 1) := by decide +kernel
theorem dX12_findVariables_47 : decode cX12_findVariables 47 = .ok (.ifCond .ne 24, 3) := by decide +kernel
theorem dX12_findVariables_50 : decode cX12_findVariables 50 = .ok (.aload_n 0, 1) := by decide +kernel
theorem dX12_findVariables_51 : decode cX12_findVariables 51 = .ok (.getfield 62, 3) := by decide +kernel
theorem dX12_findVariables_54 : decode cX12_findVariables 54 = .ok (.iload_n 1, 1) := by decide +kernel
theorem dX12_findVariables_55 : decode cX12_findVariables 55 = .ok (.iaload, 1) := by decide +kernel
theorem dX12_findVariables_56 : decode cX12_findVariables 56 = .ok (.iconst (-1), 1) := by decide +kernel
theorem dX12_findVariables_57 : decode cX12_findVariables 57 = .ok (.if_icmp .eq 14, 3) := by decide +kernel
theorem dX12_findVariables_60 : decode cX12_findVariables 60 = .ok (.aload_n 0, 1) := by decide +kernel
theorem dX12_findVariables_61 : decode cX12_findVariables 61 = .ok (.iload_n 1, 1) := by decide +kernel
theorem dX12_findVariables_62 : decode cX12_findVariables 62 = .ok (.aload_n 0, 1) := by decide +kernel
theorem dX12_findVariables_63 : decode cX12_findVariables 63 = .ok (.getfield 62, 3) := by decide +kernel
theorem dX12_findVariables_66 : decode cX12_findVariables 66 = .ok (.iload_n 1, 1) := by decide +kernel
theorem dX12_findVariables_67 : decode cX12_findVariables 67 = .ok (.iaload, 1) := by decide +kernel
theorem dX12_findVariables_68 : decode cX12_findVariables 68 = .ok (.invokevirtual 750, 3) := by decide +kernel
theorem dX12_findVariables_71 : decode cX12_findVariables 71 = .ok (.iconst 0, 1) := by decide +kernel
theorem dX12_findVariables_72 : decode cX12_findVariables 72 = .ok (.istore_n 2, 1) := by decide +kernel
theorem dX12_findVariables_73 : decode cX12_findVariables 73 = .ok (.iload_n 2, 1) := by decide +kernel
theorem dX12_findVariables_74 : decode cX12_findVariables 74 = .ok (.aload_n 0, 1) := by decide +kernel
theorem dX12_findVariables_75 : decode cX12_findVariables 75 = .ok (.getfield 83, 3) := by decide +kernel
theorem dX12_findVariables_78 : decode cX12_findVariables 78 = .ok (.iload_n 1, 1) := by decide +kernel
theorem dX12_findVariables_79 : decode cX12_findVariables 79 = .ok (.iaload, 1) := by decide +kernel
theorem dX12_findVariables_80 : decode cX12_findVariables 80 = .ok (.if_icmp .ge 25, 3) := by decide +kernel
theorem dX12_findVariables_83 : decode cX12_findVariables 83 = .ok (.aload_n 0, 1) := by decide +kernel
theorem dX12_findVariables_84 : decode cX12_findVariables 84 = .ok (.iload_n 1, 1) := by decide +kernel
theorem dX12_findVariables_85 : decode cX12_findVariables 85 = .ok (.aload_n 0, 1) := by decide +kernel
theorem dX12_findVariables_86 : decode cX12_findVariables 86 = .ok (.getfield 80, 3) := by decide +kernel
theorem dX12_findVariables_89 : decode cX12_findVariables 89 = .ok (.bipush 100, 2) := by decide +kernel
theorem dX12_findVariables_91 : decode cX12_findVariables 91 = .ok (.iload_n 1, 1) := by decide +kernel
theorem dX12_findVariables_92 : decode cX12_findVariables 92 = .ok (.imul, 1) := by decide +kernel
theorem dX12_findVariables_93 : decode cX12_findVariables 93 = .ok (.iload_n 2, 1) := by decide +kernel
theorem dX12_findVariables_94 : decode cX12_findVariables 94 = .ok (.iadd, 1) := by decide +kernel
theorem dX12_findVariables_95 : decode cX12_findVariables 95 = .ok (.iaload, 1) := by decide +kernel
theorem dX12_findVariables_96 : decode cX12_findVariables 96 = .ok (.invokevirtual 750, 3) := by decide +kernel
theorem dX12_findVariables_99 : decode cX12_findVariables 99 = .ok (.iinc 2 1, 3) := by decide +kernel
theorem dX12_findVariables_102 : decode cX12_findVariables 102 = .ok (.goto (-29), 3) := by decide +kernel
theorem dX12_findVariables_105 : decode cX12_findVariables 105 = .ok (.return_, 1) := by decide +kernel
theorem dX12_isJump_0 : decode cX12_isJump 0 = .ok (.iload_n 0, 1) := by decide +kernel
theorem dX12_isJump_1 : decode cX12_isJump 1 = .ok (.bipush 21, 2) := by decide +kernel
theorem dX12_isJump_3 : decode cX12_isJump 3 = .ok (.if_icmp .lt 9, 3) := by decide +kernel
theorem dX12_isJump_6 : decode cX12_isJump 6 = .ok (.iload_n 0, 1) := by decide +kernel
theorem dX12_isJump_7 : decode cX12_isJump 7 = .ok (.bipush 24, 2) := by decide +kernel
theorem dX12_isJump_9 : decode cX12_isJump 9 = .ok (.if_icmp .le 15, 3) := by decide +kernel
theorem dX12_isJump_12 : decode cX12_isJump 12 = .ok (.iload_n 0, 1) := by decide +kernel
theorem dX12_isJump_13 : decode cX12_isJump 13 = .ok (.bipush 27, 2) := by decide +kernel
theorem dX12_isJump_15 : decode cX12_isJump 15 = .ok (.if_icmp .eq 9, 3) := by decide +kernel
theorem dX12_isJump_18 : decode cX12_isJump 18 = .ok (.iload_n 0, 1) := by decide +kernel
theorem dX12_isJump_19 : decode cX12_isJump 19 = .ok (.bipush 30, 2) := by decide +kernel
theorem dX12_isJump_21 : decode cX12_isJump 21 = .ok (.if_icmp .ne 7, 3) := by decide +kernel
theorem dX12_isJump_24 : decode cX12_isJump 24 = .ok (.iconst 1, 1) := by decide +kernel
theorem dX12_isJump_25 : decode cX12_isJump 25 = .ok (.goto 4, 3) := by decide +kernel
theorem dX12_isJump_28 : decode cX12_isJump 28 = .ok (.iconst 0, 1) := by decide +kernel
theorem dX12_isJump_29 : decode cX12_isJump 29 = .ok (.ireturn, 1) := by decide +kernel
/-- x is none of the first n variables of function p -/
def sm_nv (vs : Int → Int) (p x n : Int) : Prop := ∀ k : Int, 0 ≤ k → k < n → ¬ vs (100 * p + k) = x
theorem sm_nv_0 (vs : Int → Int) (p x : Int) : sm_nv vs p x 0 := fun k a b => by omega
theorem sm_nv_s {vs : Int → Int} {p x n : Int} (h : sm_nv vs p x n) (e : ¬ vs (100 * p + n) = x) : sm_nv vs p x (n + 1) := fun k a b => by
  by_cases c : k = n
  · rw [c]; exact e
  · exact h k a (by omega)
def q_isVariableN (p1 : Int) (p2 : Int) (S : sv_S) : Option Value → sv_S → Prop := fun v S' => ∃ r : Int, v = some (sv_I r) ∧ sv_R r ∧ sm_ok S' ∧ sv_mod [] S S' ∧ ((r = 0 ∨ r = 1) ∧ (r = 0 → sm_nv (S' 32) p1 p2 ((S' 33 p1))))
theorem la_isVariableN_0 : (0 : Int) = 0 ∨ (0 : Int) = 1 := by omega
theorem la_isVariableN_1 : (0 : Int) ≤ 0 := by omega
theorem la_isVariableN_2 {x0 x1 : Int} (h0 : x0 ≤ x1) : 0 ≤ x1 - x0 := by omega
theorem la_isVariableN_3 {x0 : Int} (h0 : 0 ≤ x0) (h1 : x0 ≤ 11) : 0 ≤ x0 ∧ x0 < 12 := by omega
theorem la_isVariableN_4 {x0 : Int} (h0 : x0 = 0 ∨ x0 = 1) : 0 ≤ x0 := by omega
theorem la_isVariableN_5 {x0 : Int} (h0 : x0 = 0 ∨ x0 = 1) : x0 ≤ 1 := by omega
theorem la_isVariableN_6 {x0 : Int} (h0 : x0 = 0) : ¬ x0 = 1 := by omega
theorem la_isVariableN_7 {x0 x1 : Int} (h0 : x0 ≤ x1) (h1 : x1 ≤ x0) : x0 = x1 := by omega
theorem la_isVariableN_8 {x0 x1 : Int} (h0 : x0 ≤ 100) (h1 : 0 ≤ x1) (h2 : ¬ x0 ≤ x1) : sv_R (x1 + 1) := by omega
theorem la_isVariableN_9 {x0 : Int} (h0 : 0 ≤ x0) : 0 ≤ x0 + 1 := by omega
theorem la_isVariableN_10 {x0 x1 : Int} (h0 : ¬ x0 ≤ x1) : x1 + 1 ≤ x0 := by omega
theorem la_isVariableN_11 {x0 x1 : Int} : x0 - (x1 + 1) < x0 - x1 := by omega
theorem la_isVariableN_12 {x0 x1 x2 : Int} : ¬ x0 = 0 → ((1 : Int) = 0 ∨ (1 : Int) = 1) ∧ ((1 : Int) = 0 → x0 = 0 ∧ ¬ x1 = x2) := by omega
theorem la_isVariableN_13 {x0 : Int} (h0 : ¬ ¬ x0 = 0) : ¬ x0 = 1 := by omega
theorem la_isVariableN_14 {x0 x1 x2 : Int} (h0 : 0 ≤ x0) (h1 : x0 ≤ 11) (h2 : x1 ≤ 100) (h3 : 0 ≤ x2) (h4 : ¬ x1 ≤ x2) : 0 ≤ 100 * x0 + x2 ∧ 100 * x0 + x2 < 1200 := by omega
theorem la_isVariableN_15 {x0 x1 x2 : Int} (h0 : ¬ ¬ x0 = 0) : ¬ x1 = x2 → ((0 : Int) = 0 ∨ (0 : Int) = 1) ∧ ((0 : Int) = 0 → x0 = 0 ∧ ¬ x1 = x2) := by omega
theorem la_isVariableN_16 : (1 : Int) = 0 ∨ (1 : Int) = 1 := by omega
theorem la_isVariableN_17 {x0 x1 : Int} (h0 : (1 : Int) = 0) : ¬ x0 = x1 := by omega
set_option maxHeartbeats 2000000 in
theorem f_isVariableN : ∀ (p1 : Int) (p2 : Int) (S : sv_S), sm_ok S → sv_R p1 → sv_R p2 → (0 ≤ p1 ∧ p1 ≤ 11 ∧ 0 ≤ (S 33 p1) ∧ (S 33 p1) ≤ 100) → ((sm_nv (S 32) p1 p2 (0)) → ((((0 : Int) = 0 ∨ (0 : Int) = 1) ∧ ((0 : Int) = 0 → sm_nv (S 32) p1 p2 ((0 : Int))) ∧ 0 ≤ (0 : Int) ∧ (0 : Int) ≤ (S 33 p1)) ∧ (∀ l3_2 : Int, sv_R l3_2 → ∀ l4_3 : Int, sv_R l4_3 → ((l3_2 = 0 ∨ l3_2 = 1) ∧ (l3_2 = 0 → sm_nv (S 32) p1 p2 (l4_3)) ∧ 0 ≤ l4_3 ∧ l4_3 ≤ (S 33 p1)) → (0 ≤ (S 33 p1) - l4_3) ∧ (0 ≤ p1 ∧ p1 < 12) ∧ (sv_R (S 33 p1) → ((((S 33 p1) ≤ l4_3) → ((sm_nv (S 32) p1 p2 (l4_3) → l4_3 = (S 33 p1) → sm_nv (S 32) p1 p2 ((S 33 p1))) → (0 ≤ l3_2 ∧ l3_2 ≤ 1) ∧ ((l3_2 = 0 ∨ l3_2 = 1) ∧ (l3_2 = 0 → sm_nv (S 32) p1 p2 ((S 33 p1)))))) ∧ ((¬ ((S 33 p1) ≤ l4_3)) → ((∀ s11 : Int, sv_R s11 → ((s11 = 0 ∨ s11 = 1) ∧ (s11 = 0 → l3_2 = 0 ∧ ¬ (S 32 (100 * p1 + l4_3)) = p2)) → ((sm_nv (S 32) p1 p2 (l4_3) → ¬ (S 32 (100 * p1 + l4_3)) = p2 → sm_nv (S 32) p1 p2 (l4_3 + 1)) → (sv_R (l4_3 + (1 : Int))) ∧ (((s11 = 0 ∨ s11 = 1) ∧ (s11 = 0 → sm_nv (S 32) p1 p2 ((l4_3 + (1 : Int)))) ∧ 0 ≤ (l4_3 + (1 : Int)) ∧ (l4_3 + (1 : Int)) ≤ (S 33 p1)) ∧ ((S 33 p1) - (l4_3 + (1 : Int))) < ((S 33 p1) - l4_3)))) ∧ (((¬ l3_2 = (0 : Int)) → (((1 : Int) = 0 ∨ (1 : Int) = 1) ∧ ((1 : Int) = 0 → l3_2 = 0 ∧ ¬ (S 32 (100 * p1 + l4_3)) = p2))) ∧ ((¬ (¬ l3_2 = (0 : Int))) → (0 ≤ (((100 : Int) * p1) + l4_3) ∧ (((100 : Int) * p1) + l4_3) < 1200) ∧ (sv_R (S 32 (((100 : Int) * p1) + l4_3)) → (((¬ (S 32 (((100 : Int) * p1) + l4_3)) = p2) → (((0 : Int) = 0 ∨ (0 : Int) = 1) ∧ ((0 : Int) = 0 → l3_2 = 0 ∧ ¬ (S 32 (100 * p1 + l4_3)) = p2))) ∧ ((¬ (¬ (S 32 (((100 : Int) * p1) + l4_3)) = p2)) → (((1 : Int) = 0 ∨ (1 : Int) = 1) ∧ ((1 : Int) = 0 → l3_2 = 0 ∧ ¬ (S 32 (100 * p1 + l4_3)) = p2)))))))))))))) := by
  intro p1
  intro p2
  intro S
  intro h1_
  intro h2_
  intro h3_
  rintro ⟨h4_, ⟨h5_, ⟨h6_, h7_⟩⟩⟩
  intro h8_
  refine ⟨?_, ?_⟩
  · skip
    refine ⟨la_isVariableN_0, ?_⟩
    refine ⟨?_, ?_⟩
    · skip
      intro h9_
      exact h8_
    refine ⟨la_isVariableN_1, ?_⟩
    exact h6_
  intro l3_2
  intro h10_
  intro l4_3
  intro h11_
  rintro ⟨h12_, ⟨h13_, ⟨h14_, h15_⟩⟩⟩
  refine ⟨(la_isVariableN_2 h15_), ?_⟩
  refine ⟨(la_isVariableN_3 h4_ h5_), ?_⟩
  intro h16_
  refine ⟨?_, ?_⟩
  · skip
    intro h17_
    intro h18_
    refine ⟨?_, ?_⟩
    · skip
      refine ⟨?_, ?_⟩
      · skip
        exact (la_isVariableN_4 h12_)
      exact (la_isVariableN_5 h12_)
    refine ⟨h12_, ?_⟩
    intro h19_
    have h20_ := (h12_.resolve_right (la_isVariableN_6 h19_))
    have h21_ := (h13_ h19_)
    have h22_ := (h18_ h21_)
    have h23_ := (h22_ (la_isVariableN_7 h15_ h17_))
    exact h23_
  intro h24_
  refine ⟨?_, ?_⟩
  · skip
    intro s11
    intro h25_
    rintro ⟨h26_, h27_⟩
    intro h28_
    refine ⟨(la_isVariableN_8 h7_ h14_ h24_), ?_⟩
    refine ⟨?_, ?_⟩
    · skip
      refine ⟨h26_, ?_⟩
      refine ⟨?_, ?_⟩
      · skip
        intro h29_
        have h30_ := (h26_.resolve_right (la_isVariableN_6 h29_))
        obtain ⟨h31_, h32_⟩ := (h27_ h29_)
        have h33_ := (h13_ h31_)
        have h34_ := (h28_ h33_)
        have h35_ := (h12_.resolve_right (la_isVariableN_6 h31_))
        have h36_ := (h34_ h32_)
        exact h36_
      refine ⟨(la_isVariableN_9 h14_), ?_⟩
      exact (la_isVariableN_10 h24_)
    exact la_isVariableN_11
  refine ⟨la_isVariableN_12, ?_⟩
  intro h37_
  have h38_ := (h12_.resolve_right (la_isVariableN_13 h37_))
  have h39_ := (h13_ h38_)
  refine ⟨(la_isVariableN_14 h4_ h5_ h7_ h14_ h24_), ?_⟩
  intro h40_
  refine ⟨(la_isVariableN_15 h37_), ?_⟩
  intro h41_
  refine ⟨la_isVariableN_16, ?_⟩
  intro h42_
  refine ⟨h38_, ?_⟩
  exact (la_isVariableN_17 h42_)
set_option maxRecDepth 8000 in
set_option maxHeartbeats 8000000 in
theorem t_isVariableN : ∀ (p1 : Int) (p2 : Int) (S : sv_S), sm_ok S → sv_R p1 → sv_R p2 → (0 ≤ p1 ∧ p1 ≤ 11 ∧ 0 ≤ (S 33 p1) ∧ (S 33 p1) ≤ 100) → sv_T sm_XS sm_cs sm_L sm_sh 0 (q_isVariableN p1 p2 S) 86 0 (lv_args 0 [.ref 0, sv_I p1, sv_I p2]) [] S := by
  intro p1 p2 S hok hp1 hp2 hpre
  have h := f_isVariableN p1 p2 S hok hp1 hp2 hpre
  have hM := sm_h86
  show sv_T sm_XS sm_cs sm_L sm_sh 0 (q_isVariableN p1 p2 S) 86 0 [(0, .ref 0), (1, sv_I p1), (2, sv_I p2)] [] S
  have k1 : (sm_nv (S 32) p1 p2 (0)) := sm_nv_0 _ _ _
  have h := h k1
  refine sv_iconst (d := (0 : Int)) hM dX12_isVariable_0 rfl rfl ?_
  refine sv_istore_n hM dX12_isVariable_1 (by decide) rfl ?_
  show sv_T sm_XS sm_cs sm_L sm_sh 0 (q_isVariableN p1 p2 S) 86 2 [(0, .ref 0), (1, sv_I p1), (2, sv_I p2), (3, sv_I (0 : Int))] [] S
  refine sv_iconst (d := (0 : Int)) hM dX12_isVariable_2 rfl rfl ?_
  refine sv_istore hM dX12_isVariable_3 (by decide) rfl ?_
  show sv_T sm_XS sm_cs sm_L sm_sh 0 (q_isVariableN p1 p2 S) 86 5 [(0, .ref 0), (1, sv_I p1), (2, sv_I p2), (3, sv_I (0 : Int)), (4, sv_I (0 : Int))] [] S
  obtain ⟨hin5, h⟩ := h
  have hJ : ∀ a : Int × Int × Unit, (sv_R a.1 ∧ sv_R a.2.1 ∧ sm_ok S ∧ ((a.1 = 0 ∨ a.1 = 1) ∧ (a.1 = 0 → sm_nv (S 32) p1 p2 (a.2.1)) ∧ 0 ≤ a.2.1 ∧ a.2.1 ≤ (S 33 p1))) → sv_T sm_XS sm_cs sm_L sm_sh 0 (q_isVariableN p1 p2 S) 86 5 [(0, .ref 0), (1, sv_I p1), (2, sv_I p2), (3, sv_I a.1), (4, sv_I a.2.1)] [] S := by
    refine sv_loop (α := Int × Int × Unit) (fun a => sv_R a.1 ∧ sv_R a.2.1 ∧ sm_ok S ∧ ((a.1 = 0 ∨ a.1 = 1) ∧ (a.1 = 0 → sm_nv (S 32) p1 p2 (a.2.1)) ∧ 0 ≤ a.2.1 ∧ a.2.1 ≤ (S 33 p1))) (fun a => (S 33 p1) - a.2.1) (fun a => sv_T sm_XS sm_cs sm_L sm_sh 0 (q_isVariableN p1 p2 S) 86 5 [(0, .ref 0), (1, sv_I p1), (2, sv_I p2), (3, sv_I a.1), (4, sv_I a.2.1)] [] S) (fun a q => (h a.1 q.1 a.2.1 q.2.1 q.2.2.2).1) (fun a q ih4 => ?_)
    obtain ⟨l3_2, l4_3, _u⟩ := a
    obtain ⟨hl3_2, hl4_3, ok6, hin5i⟩ := q
    have h := (h l3_2 hl3_2 l4_3 hl4_3 hin5i).2
    show sv_T sm_XS sm_cs sm_L sm_sh 0 (q_isVariableN p1 p2 S) 86 5 [(0, .ref 0), (1, sv_I p1), (2, sv_I p2), (3, sv_I l3_2), (4, sv_I l4_3)] [] S
    refine sv_iload hM dX12_isVariable_5 rfl rfl ?_
    refine sv_aload_n hM dX12_isVariable_7 rfl rfl ?_
    refine sv_getA hM dX12_isVariable_8 sm_fl_110 (sm_a0 _) sm_k58 rfl ?_
    refine sv_iload_n hM dX12_isVariable_11 rfl rfl ?_
    obtain ⟨o7, h⟩ := h
    have k8 : sv_R (S 33 p1) := sm_okI ok6 sm_r33 p1
    have h := h k8
    refine sv_iald hM dX12_isVariable_12 (sm_a33 _) (by decide) o7.1 o7.2 rfl (x := (S 33 p1)) rfl ?_
    refine sv_icmp_ge hM dX12_isVariable_13 hl4_3 k8 (t := 48) rfl rfl (fun hc => ?_) (fun hc => ?_)
    · have h := h.1 (hc)
      have k9 : (sm_nv (S 32) p1 p2 (l4_3) → l4_3 = (S 33 p1) → sm_nv (S 32) p1 p2 ((S 33 p1))) := fun h e => e ▸ h
      have h := h k9
      refine sv_iload_n hM dX12_isVariable_48 rfl rfl ?_
      obtain ⟨o10, h⟩ := h
      exact sv_iret hM dX12_isVariable_49 rfl (sv_nz o10) ⟨l3_2, rfl, sv_R01 o10, ok6, sv_mod.rf, h⟩
    · have h := h.2 (hc)
      have J15 : ∀ s11 : Int, sv_R s11 → ((s11 = 0 ∨ s11 = 1) ∧ (s11 = 0 → l3_2 = 0 ∧ ¬ (S 32 (100 * p1 + l4_3)) = p2)) → sv_T sm_XS sm_cs sm_L sm_sh 0 (q_isVariableN p1 p2 S) 86 41 [(0, .ref 0), (1, sv_I p1), (2, sv_I p2), (3, sv_I l3_2), (4, sv_I l4_3)] [sv_I s11] S := by
        intro s11 hs11 hin12
        have h := h.1 s11 hs11 hin12
        refine sv_istore_n hM dX12_isVariable_41 (by decide) rfl ?_
        show sv_T sm_XS sm_cs sm_L sm_sh 0 (q_isVariableN p1 p2 S) 86 42 [(0, .ref 0), (1, sv_I p1), (2, sv_I p2), (3, sv_I s11), (4, sv_I l4_3)] [] S
        have k13 : (sm_nv (S 32) p1 p2 (l4_3) → ¬ (S 32 (100 * p1 + l4_3)) = p2 → sm_nv (S 32) p1 p2 (l4_3 + 1)) := fun h a => sm_nv_s h a
        have h := h k13
        refine sv_iinc (d := (1 : Int)) hM dX12_isVariable_42 rfl (by decide) rfl rfl ?_
        show sv_T sm_XS sm_cs sm_L sm_sh 0 (q_isVariableN p1 p2 S) 86 45 [(0, .ref 0), (1, sv_I p1), (2, sv_I p2), (3, sv_I s11), (4, sv_I (l4_3 + (1 : Int)))] [] S
        refine sv_goto hM dX12_isVariable_45 (pc' := 5) rfl ?_
        obtain ⟨o14, h⟩ := h
        have hb := ih4 (s11, (l4_3 + (1 : Int)), ()) ⟨hs11, o14, ok6, h.1⟩ h.2
        exact sv_less (lv := [(0, .ref 0), (1, sv_I p1), (2, sv_I p2), (3, sv_I s11), (4, sv_I (l4_3 + (1 : Int)))]) (sv_Sub_cons rfl (sv_Sub_cons rfl (sv_Sub_cons rfl (sv_Sub_cons rfl (sv_Sub_cons rfl sv_Sub_nil))))) hb
      have h := h.2
      refine sv_iload_n hM dX12_isVariable_16 rfl rfl ?_
      refine sv_cond_ne hM dX12_isVariable_17 hl3_2 (t := 36) rfl rfl (fun hc => ?_) (fun hc => ?_)
      · have h := h.1 (hc)
        refine sv_iconst (d := (1 : Int)) hM dX12_isVariable_36 rfl rfl ?_
        refine sv_goto hM dX12_isVariable_37 (pc' := 41) rfl ?_
        have hb := J15 (1 : Int) (⟨by decide, by decide⟩ : sv_R (1 : Int)) h
        exact sv_less (lv := [(0, .ref 0), (1, sv_I p1), (2, sv_I p2), (3, sv_I l3_2), (4, sv_I l4_3)]) (sv_Sub_cons rfl (sv_Sub_cons rfl (sv_Sub_cons rfl (sv_Sub_cons rfl (sv_Sub_cons rfl sv_Sub_nil))))) hb
      · have h := h.2 (hc)
        refine sv_aload_n hM dX12_isVariable_20 rfl rfl ?_
        refine sv_getA hM dX12_isVariable_21 sm_fl_107 (sm_a0 _) sm_k57 rfl ?_
        refine sv_bipush (d := (100 : Int)) hM dX12_isVariable_24 rfl rfl ?_
        refine sv_iload_n hM dX12_isVariable_26 rfl rfl ?_
        refine sv_imul hM dX12_isVariable_27 rfl ?_
        refine sv_iload hM dX12_isVariable_28 rfl rfl ?_
        refine sv_iadd hM dX12_isVariable_30 rfl ?_
        obtain ⟨o16, h⟩ := h
        have k17 : sv_R (S 32 (((100 : Int) * p1) + l4_3)) := sm_okI ok6 sm_r32 (((100 : Int) * p1) + l4_3)
        have h := h k17
        refine sv_iald hM dX12_isVariable_31 (sm_a32 _) (by decide) o16.1 o16.2 rfl (x := (S 32 (((100 : Int) * p1) + l4_3))) rfl ?_
        refine sv_iload_n hM dX12_isVariable_32 rfl rfl ?_
        refine sv_icmp_ne hM dX12_isVariable_33 k17 hp2 (t := 40) rfl rfl (fun hc => ?_) (fun hc => ?_)
        · have h := h.1 (hc)
          refine sv_iconst (d := (0 : Int)) hM dX12_isVariable_40 rfl rfl ?_
          have hb := J15 (0 : Int) (⟨by decide, by decide⟩ : sv_R (0 : Int)) h
          exact sv_less (lv := [(0, .ref 0), (1, sv_I p1), (2, sv_I p2), (3, sv_I l3_2), (4, sv_I l4_3)]) (sv_Sub_cons rfl (sv_Sub_cons rfl (sv_Sub_cons rfl (sv_Sub_cons rfl (sv_Sub_cons rfl sv_Sub_nil))))) hb
        · have h := h.2 (hc)
          refine sv_iconst (d := (1 : Int)) hM dX12_isVariable_36 rfl rfl ?_
          refine sv_goto hM dX12_isVariable_37 (pc' := 41) rfl ?_
          have hb := J15 (1 : Int) (⟨by decide, by decide⟩ : sv_R (1 : Int)) h
          exact sv_less (lv := [(0, .ref 0), (1, sv_I p1), (2, sv_I p2), (3, sv_I l3_2), (4, sv_I l4_3)]) (sv_Sub_cons rfl (sv_Sub_cons rfl (sv_Sub_cons rfl (sv_Sub_cons rfl (sv_Sub_cons rfl sv_Sub_nil))))) hb
  exact hJ ((0 : Int), (0 : Int), ()) ⟨(⟨by decide, by decide⟩ : sv_R (0 : Int)), (⟨by decide, by decide⟩ : sv_R (0 : Int)), hok, hin5⟩
def q_addVariable (p1 : Int) (p2 : Int) (S : sv_S) : Option Value → sv_S → Prop := fun v S' => v = none ∧ sm_ok S' ∧ sv_mod [32, 33] S S' ∧ (sm_HD (S' 32) (S' 33) (p1 + 1) (S' 1007 0) ∧ (∀ k : Int, ¬ k = p1 → (S' 33 k) = (S 33 k)))
theorem la_addVariable_0 {x0 : Int} (h0 : 1 ≤ x0) : 0 ≤ x0 := by omega
theorem la_addVariable_1 {x0 : Int} : x0 < x0 + 1 := by omega
theorem la_addVariable_2 {x0 : Int} (h0 : x0 ≤ 11) : x0 < 12 := by omega
theorem la_addVariable_3 {x0 x1 x2 : Int} (h0 : 1 ≤ x0) (h1 : x0 ≤ 11) (h2 : x1 ≤ 90) (h3 : 0 ≤ x2) (h4 : x2 ≤ x1) : 0 ≤ x0 ∧ x0 ≤ 11 ∧ 0 ≤ x2 ∧ x2 ≤ 100 := by omega
theorem la_addVariable_4 {x0 : Int} (h0 : x0 = 0) : ¬ x0 = 1 := by omega
theorem la_addVariable_5 {x0 : Int} (h0 : 1 ≤ x0) (h1 : x0 ≤ 11) : 0 ≤ x0 ∧ x0 < 12 := by omega
theorem la_addVariable_6 {x0 x1 x2 : Int} (h0 : 1 ≤ x0) (h1 : x0 ≤ 11) (h2 : x1 ≤ 90) (h3 : 0 ≤ x2) (h4 : x2 ≤ x1) : 0 ≤ 100 * x0 + x2 ∧ 100 * x0 + x2 < 1200 := by omega
theorem la_addVariable_7 {x0 x1 : Int} (h0 : x0 ≤ 90) (h1 : 0 ≤ x1) (h2 : x1 ≤ x0) : sv_R (x1 + 1) := by omega
theorem la_addVariable_8 {x0 x1 : Int} (h0 : x0 ≤ 90) (h1 : x1 ≤ x0) : x1 < 100 := by omega
theorem la_addVariable_9 {x0 : Int} (h0 : x0 = 1) : 0 ≤ x0 := by omega
theorem la_addVariable_10 {x0 : Int} (h0 : 0 ≤ x0) (h1 : ¬ x0 = 0) : 0 < x0 := by omega
theorem la_addVariable_11 {x0 : Int} : x0 = x0 := by omega
set_option maxHeartbeats 2000000 in
theorem f_addVariable : ∀ (p1 : Int) (p2 : Int) (S : sv_S), sm_ok S → sv_R p1 → sv_R p2 → (1 ≤ p1 ∧ p1 ≤ 11 ∧ 0 ≤ (S 1007 0) ∧ (S 1007 0) ≤ 90 ∧ 0 ≤ p2 ∧ p2 < (S 1007 0) ∧ sm_HD (S 32) (S 33) (p1 + 1) (S 1007 0)) → ((sm_HD (S 32) (S 33) (p1 + 1) (S 1007 0) → 0 ≤ p1 → p1 < p1 + 1 → p1 < 12 → 0 ≤ (S 33 p1) ∧ (0 ≤ (S 1007 0) → (S 33 p1) ≤ (S 1007 0))) → (0 ≤ p1 ∧ p1 ≤ 11 ∧ 0 ≤ (S 33 p1) ∧ (S 33 p1) ≤ 100) ∧ (∀ r7 : Int, sv_R r7 → ((r7 = 0 ∨ r7 = 1) ∧ (r7 = 0 → sm_nv (S 32) p1 p2 ((S 33 p1)))) → (((r7 = (0 : Int)) → (0 ≤ p1 ∧ p1 < 12) ∧ (sv_R (S 33 p1) → (0 ≤ (((100 : Int) * p1) + (S 33 p1)) ∧ (((100 : Int) * p1) + (S 33 p1)) < 1200) ∧ (sv_R ((S 33 p1) + (1 : Int))) ∧ ((sm_HD (S 32) (S 33) (p1 + 1) (S 1007 0) → 0 ≤ p1 → p1 < 12 → 0 ≤ p2 → p2 < (S 1007 0) → sm_nv (S 32) p1 p2 ((S 33 p1)) → 0 ≤ (S 33 p1) → (S 33 p1) < 100 → sm_HD (fun i' : Int => if i' = (((100 : Int) * p1) + (S 33 p1)) then p2 else (S 32) i') (fun i' : Int => if i' = p1 then ((S 33 p1) + (1 : Int)) else (S 33) i') (p1 + 1) (S 1007 0)) → (sm_HD (fun i' : Int => if i' = (((100 : Int) * p1) + (S 33 p1)) then p2 else (S 32) i') (fun i' : Int => if i' = p1 then ((S 33 p1) + (1 : Int)) else (S 33) i') (p1 + 1) (S 1007 0) ∧ (∀ k : Int, ¬ k = p1 → (if k = p1 then ((S 33 p1) + (1 : Int)) else (S 33 k)) = (S 33 k)))))) ∧ ((¬ (r7 = (0 : Int))) → (sm_HD (S 32) (S 33) (p1 + 1) (S 1007 0) ∧ (∀ k : Int, ¬ k = p1 → (S 33 k) = (S 33 k))))))) := by
  intro p1
  intro p2
  intro S
  intro h1_
  intro h2_
  intro h3_
  rintro ⟨h4_, ⟨h5_, ⟨h6_, ⟨h7_, ⟨h8_, ⟨h9_, h10_⟩⟩⟩⟩⟩⟩
  intro h11_
  have h12_ := (h11_ h10_)
  have h13_ := (h12_ (la_addVariable_0 h4_))
  have h14_ := (h13_ la_addVariable_1)
  obtain ⟨h15_, h16_⟩ := (h14_ (la_addVariable_2 h5_))
  have h17_ := (h16_ h6_)
  refine ⟨(la_addVariable_3 h4_ h5_ h7_ h15_ h17_), ?_⟩
  intro r7
  intro h18_
  rintro ⟨h19_, h20_⟩
  refine ⟨?_, ?_⟩
  · skip
    intro h21_
    have h22_ := (h19_.resolve_right (la_addVariable_4 h21_))
    have h23_ := (h20_ h21_)
    refine ⟨(la_addVariable_5 h4_ h5_), ?_⟩
    intro h24_
    refine ⟨(la_addVariable_6 h4_ h5_ h7_ h15_ h17_), ?_⟩
    refine ⟨(la_addVariable_7 h7_ h15_ h17_), ?_⟩
    intro h25_
    have h26_ := (h25_ h10_)
    have h27_ := (h26_ (la_addVariable_0 h4_))
    have h28_ := (h27_ (la_addVariable_2 h5_))
    have h29_ := (h28_ h8_)
    have h30_ := (h29_ h9_)
    have h31_ := (h30_ h23_)
    have h32_ := (h31_ h15_)
    have h33_ := (h32_ (la_addVariable_8 h7_ h17_))
    refine ⟨h33_, ?_⟩
    intro k
    intro h34_
    have e35_ : (if k = p1 then S 33 p1 + 1 else S 33 k : Int) = S 33 k := if_neg h34_
    exact e35_
  intro h36_
  have h37_ := (h19_.resolve_left h36_)
  refine ⟨h10_, ?_⟩
  intro kv1
  intro h38_
  exact la_addVariable_11
set_option maxRecDepth 8000 in
set_option maxHeartbeats 8000000 in
theorem t_addVariable : ∀ (p1 : Int) (p2 : Int) (S : sv_S), sm_ok S → sv_R p1 → sv_R p2 → (1 ≤ p1 ∧ p1 ≤ 11 ∧ 0 ≤ (S 1007 0) ∧ (S 1007 0) ≤ 90 ∧ 0 ≤ p2 ∧ p2 < (S 1007 0) ∧ sm_HD (S 32) (S 33) (p1 + 1) (S 1007 0)) → sv_T sm_XS sm_cs sm_L sm_sh 1 (q_addVariable p1 p2 S) 118 0 (lv_args 0 [.ref 0, sv_I p1, sv_I p2]) [] S := by
  intro p1 p2 S hok hp1 hp2 hpre
  have h := f_addVariable p1 p2 S hok hp1 hp2 hpre
  have hM := sm_h118
  show sv_T sm_XS sm_cs sm_L sm_sh 1 (q_addVariable p1 p2 S) 118 0 [(0, .ref 0), (1, sv_I p1), (2, sv_I p2)] [] S
  have k1 : (sm_HD (S 32) (S 33) (p1 + 1) (S 1007 0) → 0 ≤ p1 → p1 < p1 + 1 → p1 < 12 → 0 ≤ (S 33 p1) ∧ (0 ≤ (S 1007 0) → (S 33 p1) ≤ (S 1007 0))) := fun h a b d => sm_HD_le h _ a b d
  have h := h k1
  refine sv_aload_n hM dX12_addVariable_0 rfl rfl ?_
  refine sv_iload_n hM dX12_addVariable_1 rfl rfl ?_
  refine sv_iload_n hM dX12_addVariable_2 rfl rfl ?_
  obtain ⟨o2, h⟩ := h
  refine sv_callV hM dX12_addVariable_3 sm_iv_622 (by decide) (sm_a0 _) rfl rfl (Nat.le_of_ble_eq_true rfl) sm_h86 (Nat.le_of_ble_eq_true rfl) (Nat.le_of_ble_eq_true rfl) (F' := 0) (Nat.le_of_ble_eq_true rfl) rfl (t_isVariableN p1 p2 S hok hp1 hp2 o2) (fun v S1 hq => ?_)
  obtain ⟨r7, rfl, hr7, ok4, md5, hpo6⟩ := hq
  obtain rfl : S = S1 := (funext fun j => md5 j (by intro q; cases q)).symm
  show sv_T sm_XS sm_cs sm_L sm_sh 1 (q_addVariable p1 p2 S) 118 6 [(0, .ref 0), (1, sv_I p1), (2, sv_I p2)] [sv_I r7] S
  have h := h r7 hr7 hpo6
  refine sv_cond_eq hM dX12_addVariable_6 hr7 (t := 10) rfl rfl (fun hc => ?_) (fun hc => ?_)
  · have h := h.1 (hc)
    refine sv_aload_n hM dX12_addVariable_10 rfl rfl ?_
    refine sv_getA hM dX12_addVariable_11 sm_fl_107 (sm_a0 _) sm_k57 rfl ?_
    refine sv_bipush (d := (100 : Int)) hM dX12_addVariable_14 rfl rfl ?_
    refine sv_iload_n hM dX12_addVariable_16 rfl rfl ?_
    refine sv_imul hM dX12_addVariable_17 rfl ?_
    refine sv_aload_n hM dX12_addVariable_18 rfl rfl ?_
    refine sv_getA hM dX12_addVariable_19 sm_fl_110 (sm_a0 _) sm_k58 rfl ?_
    refine sv_iload_n hM dX12_addVariable_22 rfl rfl ?_
    obtain ⟨o8, h⟩ := h
    have k9 : sv_R (S 33 p1) := sm_okI ok4 sm_r33 p1
    have h := h k9
    refine sv_iald hM dX12_addVariable_23 (sm_a33 _) (by decide) o8.1 o8.2 rfl (x := (S 33 p1)) rfl ?_
    refine sv_iadd hM dX12_addVariable_24 rfl ?_
    refine sv_iload_n hM dX12_addVariable_25 rfl rfl ?_
    obtain ⟨o10, h⟩ := h
    refine sv_iast sm_X hM dX12_addVariable_26 (sm_a32 _) (by decide) o10.1 o10.2 rfl ?_
    have ok11 : sm_ok (sv_up S 32 (((100 : Int) * p1) + (S 33 p1)) p2) := sm_upI ok4 sm_r32 hp2
    have md12 : sv_mod [32, 33] S (sv_up S 32 (((100 : Int) * p1) + (S 33 p1)) p2) := sv_mod.up sv_mod.rf (by decide)
    refine sv_aload_n hM dX12_addVariable_27 rfl rfl ?_
    refine sv_getA hM dX12_addVariable_28 sm_fl_110 (sm_a0 _) sm_k58 rfl ?_
    refine sv_iload_n hM dX12_addVariable_31 rfl rfl ?_
    refine sv_dup2 hM dX12_addVariable_32 rfl ?_
    refine sv_iald hM dX12_addVariable_33 (sm_a33 _) (by decide) o8.1 o8.2 rfl (x := (S 33 p1)) rfl ?_
    refine sv_iconst (d := (1 : Int)) hM dX12_addVariable_34 rfl rfl ?_
    refine sv_iadd hM dX12_addVariable_35 rfl ?_
    obtain ⟨o13, h⟩ := h
    refine sv_iast sm_X hM dX12_addVariable_36 (sm_a33 _) (by decide) o8.1 o8.2 rfl ?_
    have ok14 : sm_ok (sv_up (sv_up S 32 (((100 : Int) * p1) + (S 33 p1)) p2) 33 p1 ((S 33 p1) + (1 : Int))) := sm_upI ok11 sm_r33 o13
    have md15 : sv_mod [32, 33] S (sv_up (sv_up S 32 (((100 : Int) * p1) + (S 33 p1)) p2) 33 p1 ((S 33 p1) + (1 : Int))) := sv_mod.up md12 (by decide)
    have k16 : (sm_HD (S 32) (S 33) (p1 + 1) (S 1007 0) → 0 ≤ p1 → p1 < 12 → 0 ≤ p2 → p2 < (S 1007 0) → sm_nv (S 32) p1 p2 ((S 33 p1)) → 0 ≤ (S 33 p1) → (S 33 p1) < 100 → sm_HD (fun i' : Int => if i' = (((100 : Int) * p1) + (S 33 p1)) then p2 else (S 32) i') (fun i' : Int => if i' = p1 then ((S 33 p1) + (1 : Int)) else (S 33) i') (p1 + 1) (S 1007 0)) := fun h a b d e g i j => sm_HD_add (f := p1) (x := p2) h ⟨a, b⟩ ⟨d, e⟩ g ⟨i, j⟩ (fun _ => rfl) (fun _ => rfl)
    have h := h k16
    exact sv_vret hM dX12_addVariable_37 rfl ⟨rfl, ok14, md15, h⟩
  · have h := h.2 (hc)
    exact sv_vret hM dX12_addVariable_9 rfl ⟨rfl, ok4, sv_mod.rf, h⟩
def q_findVariables (p1 : Int) (S : sv_S) : Option Value → sv_S → Prop := fun v S' => v = none ∧ sm_ok S' ∧ sv_mod [32, 33] S S' ∧ (sm_HD (S' 32) (S' 33) (p1 + 1) (S' 1007 0) ∧ (∀ k : Int, ¬ k = p1 → (S' 33 k) = (S 33 k)))
theorem la_findVariables_0 {x0 : Int} (h0 : 1 ≤ x0) : 0 ≤ x0 := by omega
theorem la_findVariables_1 {x0 : Int} (h0 : x0 ≤ 11) : x0 < 12 := by omega
theorem la_findVariables_2 {x0 : Int} (h0 : 1 ≤ x0) (h1 : x0 ≤ 11) : 0 ≤ x0 ∧ x0 < 12 := by omega
theorem la_findVariables_3 : (0 : Int) ≤ 0 := by omega
theorem la_findVariables_4 {x0 x1 : Int} (h0 : x0 ≤ x1) : 0 ≤ x1 - x0 := by omega
theorem la_findVariables_5 {x0 : Int} (h0 : 0 ≤ x0) : (0 : Int) ≤ 0 ∧ 0 ≤ x0 := by omega
theorem la_findVariables_6 {x0 x1 : Int} (h0 : ¬ x0 ≤ x1) : x1 < x0 := by omega
theorem la_findVariables_7 {x0 x1 x2 x3 : Int} (h0 : 1 ≤ x0) (h1 : x0 ≤ 11) (h2 : x1 ≤ 90) (h3 : x2 ≤ x1) (h4 : 0 ≤ x3) (h5 : ¬ x2 ≤ x3) : 0 ≤ 100 * x0 + x3 ∧ 100 * x0 + x3 < 1200 := by omega
theorem la_findVariables_8 {x0 x1 x2 : Int} (h0 : x0 ≤ 90) (h1 : x1 ≤ x0) (h2 : 0 ≤ x2) (h3 : ¬ x1 ≤ x2) : sv_R (x2 + 1) := by omega
theorem la_findVariables_9 {x0 x1 x2 : Int} (h0 : x0 = x1) (h1 : x2 = x0) : x2 = x1 := by omega
theorem la_findVariables_10 {x0 : Int} (h0 : 0 ≤ x0) : 0 ≤ x0 + 1 := by omega
theorem la_findVariables_11 {x0 x1 : Int} (h0 : ¬ x0 ≤ x1) : x1 + 1 ≤ x0 := by omega
theorem la_findVariables_12 {x0 x1 : Int} : x0 - (x1 + 1) < x0 - x1 := by omega
theorem la_findVariables_13 {x0 : Int} (h0 : 0 ≤ x0) (h1 : ¬ x0 = 0) : 0 < x0 := by omega
theorem la_findVariables_14 {x0 : Int} (h0 : (-1) ≤ x0) (h1 : ¬ x0 = (-1)) : (-1) < x0 := by omega
theorem la_findVariables_15 {x0 : Int} (h0 : (-1) < x0) : 0 ≤ x0 := by omega
theorem la_findVariables_16 {x0 x1 x2 : Int} (h0 : 1 ≤ x0) (h1 : x0 ≤ 11) (h2 : x1 ≤ 8) (h3 : 0 ≤ x2) (h4 : ¬ x1 ≤ x2) : 0 ≤ 8 * x0 + x2 ∧ 8 * x0 + x2 < 96 := by omega
theorem la_findVariables_17 {x0 x1 : Int} (h0 : x0 ≤ 8) (h1 : 0 ≤ x1) (h2 : ¬ x0 ≤ x1) : sv_R (x1 + 1) := by omega
set_option maxHeartbeats 2000000 in
theorem f_findVariables : ∀ (p1 : Int) (S : sv_S), sm_ok S → sv_R p1 → (1 ≤ p1 ∧ p1 ≤ 11 ∧ p1 < (S 1100018 0) ∧ 0 ≤ (S 1007 0) ∧ (S 1007 0) ≤ 90 ∧ (S 1009 0) = 0 ∧ -1 ≤ (S 17 p1) ∧ (S 17 p1) < (S 1007 0) ∧ sm_PM (S 19) (S 20 p1) p1 (S 1007 0) (S 1009 0) ∧ sm_HD (S 23) (S 24) (S 1100018 0) (S 1007 0) ∧ sm_HD (S 32) (S 33) p1 (S 1007 0)) → ((sm_PM (S 19) (S 20 p1) p1 (S 1007 0) (S 1009 0) → 0 ≤ (S 20 p1) ∧ (S 20 p1) ≤ 8) → ((sm_HD (S 23) (S 24) ((S 1100018 0)) (S 1007 0) → 0 ≤ p1 → p1 < (S 1100018 0) → p1 < 12 → 0 ≤ (S 24 p1) ∧ (0 ≤ (S 1007 0) → (S 24 p1) ≤ (S 1007 0))) → (0 ≤ p1 ∧ p1 < 12) ∧ ((sm_HD (S 32) (S 33) p1 (S 1007 0) → sm_HD (S 32) (fun i' : Int => if i' = p1 then (0 : Int) else (S 33) i') (p1 + 1) (S 1007 0)) → ((sm_HD (S 32) (fun i' : Int => if i' = p1 then (0 : Int) else (S 33) i') (p1 + 1) (S 1007 0) ∧ (∀ k : Int, ¬ k = p1 → (if k = p1 then (0 : Int) else (S 33 k)) = (S 33 k)) ∧ 0 ≤ (0 : Int) ∧ (0 : Int) ≤ (S 20 p1)) ∧ (∀ l2_8 : Int, sv_R l2_8 → ∀ g7 : sv_S, (sm_HD (g7 32) (g7 33) (p1 + 1) (S 1007 0) ∧ (∀ k : Int, ¬ k = p1 → (g7 33 k) = (S 33 k)) ∧ 0 ≤ l2_8 ∧ l2_8 ≤ (S 20 p1)) → (0 ≤ (S 20 p1) - l2_8) ∧ (sv_R (S 20 p1) → ((((S 20 p1) ≤ l2_8) → ((∀ g15 : sv_S, (sm_HD (g15 32) (g15 33) (p1 + 1) (S 1007 0) ∧ (∀ k : Int, ¬ k = p1 → (g15 33 k) = (S 33 k))) → ((sm_HD (g15 32) (g15 33) (p1 + 1) (S 1007 0) ∧ (∀ k : Int, ¬ k = p1 → (g15 33 k) = (S 33 k)) ∧ 0 ≤ (0 : Int) ∧ (0 : Int) ≤ (S 24 p1)) ∧ (∀ l2_22 : Int, sv_R l2_22 → ∀ g21 : sv_S, (sm_HD (g21 32) (g21 33) (p1 + 1) (S 1007 0) ∧ (∀ k : Int, ¬ k = p1 → (g21 33 k) = (S 33 k)) ∧ 0 ≤ l2_22 ∧ l2_22 ≤ (S 24 p1)) → (0 ≤ (S 24 p1) - l2_22) ∧ (sv_R (S 24 p1) → ((((S 24 p1) ≤ l2_22) → (sm_HD (g21 32) (g21 33) (p1 + 1) (S 1007 0) ∧ (∀ k : Int, ¬ k = p1 → (g21 33 k) = (S 33 k)))) ∧ ((¬ ((S 24 p1) ≤ l2_22)) → ((sm_HD (S 23) (S 24) (S 1100018 0) (S 1007 0) → 0 ≤ p1 → p1 < (S 1100018 0) → p1 < 12 → 0 ≤ l2_22 → l2_22 < (S 24 p1) → 0 ≤ (S 23 (100 * p1 + l2_22)) ∧ (S 23 (100 * p1 + l2_22)) < (S 1007 0)) → (0 ≤ (((100 : Int) * p1) + l2_22) ∧ (((100 : Int) * p1) + l2_22) < 1200) ∧ (sv_R (S 23 (((100 : Int) * p1) + l2_22)) → (1 ≤ p1 ∧ p1 ≤ 11 ∧ 0 ≤ (S 1007 0) ∧ (S 1007 0) ≤ 90 ∧ 0 ≤ (S 23 (((100 : Int) * p1) + l2_22)) ∧ (S 23 (((100 : Int) * p1) + l2_22)) < (S 1007 0) ∧ sm_HD (g21 32) (g21 33) (p1 + 1) (S 1007 0)) ∧ (∀ g34 : sv_S, (sm_HD (g34 32) (g34 33) (p1 + 1) (S 1007 0) ∧ (∀ k : Int, ¬ k = p1 → (g34 33 k) = (g21 33 k))) → (sv_R (l2_22 + (1 : Int))) ∧ ((sm_HD (g34 32) (g34 33) (p1 + 1) (S 1007 0) ∧ (∀ k : Int, ¬ k = p1 → (g34 33 k) = (S 33 k)) ∧ 0 ≤ (l2_22 + (1 : Int)) ∧ (l2_22 + (1 : Int)) ≤ (S 24 p1)) ∧ ((S 24 p1) - (l2_22 + (1 : Int))) < ((S 24 p1) - l2_22))))))))))) ∧ ((0 ≤ (S 18 p1) ∧ (S 18 p1) ≤ 1) → (((¬ (S 18 p1) = (0 : Int)) → (sm_HD (g7 32) (g7 33) (p1 + 1) (S 1007 0) ∧ (∀ k : Int, ¬ k = p1 → (g7 33 k) = (S 33 k)))) ∧ ((¬ (¬ (S 18 p1) = (0 : Int))) → (sv_R (S 17 p1) → ((((S 17 p1) = (-1 : Int)) → (sm_HD (g7 32) (g7 33) (p1 + 1) (S 1007 0) ∧ (∀ k : Int, ¬ k = p1 → (g7 33 k) = (S 33 k)))) ∧ ((¬ ((S 17 p1) = (-1 : Int))) → (1 ≤ p1 ∧ p1 ≤ 11 ∧ 0 ≤ (S 1007 0) ∧ (S 1007 0) ≤ 90 ∧ 0 ≤ (S 17 p1) ∧ (S 17 p1) < (S 1007 0) ∧ sm_HD (g7 32) (g7 33) (p1 + 1) (S 1007 0)) ∧ (∀ g46 : sv_S, (sm_HD (g46 32) (g46 33) (p1 + 1) (S 1007 0) ∧ (∀ k : Int, ¬ k = p1 → (g46 33 k) = (g7 33 k))) → (sm_HD (g46 32) (g46 33) (p1 + 1) (S 1007 0) ∧ (∀ k : Int, ¬ k = p1 → (g46 33 k) = (S 33 k)))))))))))) ∧ ((¬ ((S 20 p1) ≤ l2_8)) → ((sm_PM (S 19) (S 20 p1) p1 (S 1007 0) (S 1009 0) → 0 ≤ l2_8 → l2_8 < (S 20 p1) → (S 1009 0) = 0 → 0 ≤ (S 19 (8 * p1 + l2_8)) ∧ (S 19 (8 * p1 + l2_8)) < (S 1007 0)) → (0 ≤ (((8 : Int) * p1) + l2_8) ∧ (((8 : Int) * p1) + l2_8) < 96) ∧ (sv_R (S 19 (((8 : Int) * p1) + l2_8)) → (1 ≤ p1 ∧ p1 ≤ 11 ∧ 0 ≤ (S 1007 0) ∧ (S 1007 0) ≤ 90 ∧ 0 ≤ (S 19 (((8 : Int) * p1) + l2_8)) ∧ (S 19 (((8 : Int) * p1) + l2_8)) < (S 1007 0) ∧ sm_HD (g7 32) (g7 33) (p1 + 1) (S 1007 0)) ∧ (∀ g57 : sv_S, (sm_HD (g57 32) (g57 33) (p1 + 1) (S 1007 0) ∧ (∀ k : Int, ¬ k = p1 → (g57 33 k) = (g7 33 k))) → (sv_R (l2_8 + (1 : Int))) ∧ ((sm_HD (g57 32) (g57 33) (p1 + 1) (S 1007 0) ∧ (∀ k : Int, ¬ k = p1 → (g57 33 k) = (S 33 k)) ∧ 0 ≤ (l2_8 + (1 : Int)) ∧ (l2_8 + (1 : Int)) ≤ (S 20 p1)) ∧ ((S 20 p1) - (l2_8 + (1 : Int))) < ((S 20 p1) - l2_8))))))))))))) := by
  intro p1
  intro S
  intro h1_
  intro h2_
  rintro ⟨h3_, ⟨h4_, ⟨h5_, ⟨h6_, ⟨h7_, ⟨h8_, ⟨h9_, ⟨h10_, ⟨h11_, ⟨h12_, h13_⟩⟩⟩⟩⟩⟩⟩⟩⟩⟩
  intro h14_
  obtain ⟨h15_, h16_⟩ := (h14_ h11_)
  intro h17_
  have h18_ := (h17_ h12_)
  have h19_ := (h18_ (la_findVariables_0 h3_))
  have h20_ := (h19_ h5_)
  obtain ⟨h21_, h22_⟩ := (h20_ (la_findVariables_1 h4_))
  have h23_ := (h22_ h6_)
  refine ⟨(la_findVariables_2 h3_ h4_), ?_⟩
  intro h24_
  have h25_ := (h24_ h13_)
  refine ⟨?_, ?_⟩
  · skip
    refine ⟨h25_, ?_⟩
    refine ⟨?_, ?_⟩
    · skip
      intro k
      intro h26_
      have e27_ : (if k = p1 then 0 else S 33 k : Int) = S 33 k := if_neg h26_
      exact e27_
    refine ⟨la_findVariables_3, ?_⟩
    exact h15_
  intro l2_8
  intro h28_
  intro g7
  rintro ⟨h29_, ⟨h30_, ⟨h31_, h32_⟩⟩⟩
  refine ⟨(la_findVariables_4 h32_), ?_⟩
  intro h33_
  refine ⟨?_, ?_⟩
  · skip
    intro h34_
    refine ⟨?_, ?_⟩
    · skip
      intro g15
      rintro ⟨h35_, h36_⟩
      refine ⟨⟨h35_, ⟨h36_, (la_findVariables_5 h21_)⟩⟩, ?_⟩
      intro l2_22
      intro h37_
      intro g21
      rintro ⟨h38_, ⟨h39_, ⟨h40_, h41_⟩⟩⟩
      refine ⟨(la_findVariables_4 h41_), ?_⟩
      intro h42_
      refine ⟨?_, ?_⟩
      · skip
        intro h43_
        refine ⟨h38_, ?_⟩
        intro kv1
        intro h44_
        have h45_ := ((h30_ kv1) h44_)
        have h46_ := ((h36_ kv1) h44_)
        have h47_ := ((h39_ kv1) h44_)
        exact h47_
      intro h48_
      intro h49_
      have h50_ := (h49_ h12_)
      have h51_ := (h50_ (la_findVariables_0 h3_))
      have h52_ := (h51_ h5_)
      have h53_ := (h52_ (la_findVariables_1 h4_))
      have h54_ := (h53_ h40_)
      obtain ⟨h55_, h56_⟩ := (h54_ (la_findVariables_6 h48_))
      refine ⟨(la_findVariables_7 h3_ h4_ h7_ h23_ h40_ h48_), ?_⟩
      intro h57_
      refine ⟨⟨h3_, ⟨h4_, ⟨h6_, ⟨h7_, ⟨h55_, ⟨h56_, h38_⟩⟩⟩⟩⟩⟩, ?_⟩
      intro g34
      rintro ⟨h58_, h59_⟩
      refine ⟨(la_findVariables_8 h7_ h23_ h40_ h48_), ?_⟩
      refine ⟨?_, ?_⟩
      · skip
        refine ⟨h58_, ?_⟩
        refine ⟨?_, ?_⟩
        · skip
          intro kv2
          intro h60_
          have h61_ := ((h30_ kv2) h60_)
          have h62_ := ((h36_ kv2) h60_)
          have h63_ := ((h39_ kv2) h60_)
          have h64_ := ((h59_ kv2) h60_)
          exact (la_findVariables_9 h63_ h64_)
        refine ⟨(la_findVariables_10 h40_), ?_⟩
        exact (la_findVariables_11 h48_)
      exact la_findVariables_12
    rintro ⟨h65_, h66_⟩
    refine ⟨?_, ?_⟩
    · skip
      intro h67_
      refine ⟨h29_, ?_⟩
      intro kv3
      intro h68_
      have h69_ := ((h30_ kv3) h68_)
      exact h69_
    intro h70_
    intro h71_
    refine ⟨?_, ?_⟩
    · skip
      intro h72_
      refine ⟨h29_, ?_⟩
      intro kv4
      intro h73_
      have h74_ := ((h30_ kv4) h73_)
      exact h74_
    intro h75_
    refine ⟨⟨h3_, ⟨h4_, ⟨h6_, ⟨h7_, ⟨(la_findVariables_15 (la_findVariables_14 h9_ h75_)), ⟨h10_, h29_⟩⟩⟩⟩⟩⟩, ?_⟩
    intro g46
    rintro ⟨h76_, h77_⟩
    refine ⟨h76_, ?_⟩
    intro kv5
    intro h78_
    have h79_ := ((h30_ kv5) h78_)
    have h80_ := ((h77_ kv5) h78_)
    exact (la_findVariables_9 h79_ h80_)
  intro h81_
  intro h82_
  have h83_ := (h82_ h11_)
  have h84_ := (h83_ h31_)
  have h85_ := (h84_ (la_findVariables_6 h81_))
  obtain ⟨h86_, h87_⟩ := (h85_ h8_)
  refine ⟨(la_findVariables_16 h3_ h4_ h16_ h31_ h81_), ?_⟩
  intro h88_
  refine ⟨⟨h3_, ⟨h4_, ⟨h6_, ⟨h7_, ⟨h86_, ⟨h87_, h29_⟩⟩⟩⟩⟩⟩, ?_⟩
  intro g57
  rintro ⟨h89_, h90_⟩
  refine ⟨(la_findVariables_17 h16_ h31_ h81_), ?_⟩
  refine ⟨?_, ?_⟩
  · skip
    refine ⟨h89_, ?_⟩
    refine ⟨?_, ?_⟩
    · skip
      intro kv6
      intro h91_
      have h92_ := ((h30_ kv6) h91_)
      have h93_ := ((h90_ kv6) h91_)
      exact (la_findVariables_9 h92_ h93_)
    refine ⟨(la_findVariables_10 h31_), ?_⟩
    exact (la_findVariables_11 h81_)
  exact la_findVariables_12
set_option maxRecDepth 8000 in
set_option maxHeartbeats 8000000 in
theorem t_findVariables : ∀ (p1 : Int) (S : sv_S), sm_ok S → sv_R p1 → (1 ≤ p1 ∧ p1 ≤ 11 ∧ p1 < (S 1100018 0) ∧ 0 ≤ (S 1007 0) ∧ (S 1007 0) ≤ 90 ∧ (S 1009 0) = 0 ∧ -1 ≤ (S 17 p1) ∧ (S 17 p1) < (S 1007 0) ∧ sm_PM (S 19) (S 20 p1) p1 (S 1007 0) (S 1009 0) ∧ sm_HD (S 23) (S 24) (S 1100018 0) (S 1007 0) ∧ sm_HD (S 32) (S 33) p1 (S 1007 0)) → sv_T sm_XS sm_cs sm_L sm_sh 2 (q_findVariables p1 S) 117 0 (lv_args 0 [.ref 0, sv_I p1]) [] S := by
  intro p1 S hok hp1 hpre
  have h := f_findVariables p1 S hok hp1 hpre
  have hM := sm_h117
  show sv_T sm_XS sm_cs sm_L sm_sh 2 (q_findVariables p1 S) 117 0 [(0, .ref 0), (1, sv_I p1)] [] S
  have k1 : (sm_PM (S 19) (S 20 p1) p1 (S 1007 0) (S 1009 0) → 0 ≤ (S 20 p1) ∧ (S 20 p1) ≤ 8) := fun h => ⟨h.1, h.2.1⟩
  have h := h k1
  have k2 : (sm_HD (S 23) (S 24) ((S 1100018 0)) (S 1007 0) → 0 ≤ p1 → p1 < (S 1100018 0) → p1 < 12 → 0 ≤ (S 24 p1) ∧ (0 ≤ (S 1007 0) → (S 24 p1) ≤ (S 1007 0))) := fun h a b d => sm_HD_le h _ a b d
  have h := h k2
  refine sv_aload_n hM dX12_findVariables_0 rfl rfl ?_
  refine sv_getA hM dX12_findVariables_1 sm_fl_110 (sm_a0 _) sm_k58 rfl ?_
  refine sv_iload_n hM dX12_findVariables_4 rfl rfl ?_
  refine sv_iconst (d := (0 : Int)) hM dX12_findVariables_5 rfl rfl ?_
  obtain ⟨o3, h⟩ := h
  refine sv_iast sm_X hM dX12_findVariables_6 (sm_a33 _) (by decide) o3.1 o3.2 rfl ?_
  have ok4 : sm_ok (sv_up S 33 p1 (0 : Int)) := sm_upI hok sm_r33 (⟨by decide, by decide⟩ : sv_R (0 : Int))
  have md5 : sv_mod [32, 33] S (sv_up S 33 p1 (0 : Int)) := sv_mod.up sv_mod.rf (by decide)
  have k6 : (sm_HD (S 32) (S 33) p1 (S 1007 0) → sm_HD (S 32) (fun i' : Int => if i' = p1 then (0 : Int) else (S 33) i') (p1 + 1) (S 1007 0)) := fun h => sm_HD_nf h (Int.le_refl _) (Int.le_refl _) (Int.le_refl _)
  have h := h k6
  refine sv_iconst (d := (0 : Int)) hM dX12_findVariables_7 rfl rfl ?_
  refine sv_istore_n hM dX12_findVariables_8 (by decide) rfl ?_
  show sv_T sm_XS sm_cs sm_L sm_sh 2 (q_findVariables p1 S) 117 9 [(0, .ref 0), (1, sv_I p1), (2, sv_I (0 : Int))] [] (sv_up S 33 p1 (0 : Int))
  obtain ⟨hin10, h⟩ := h
  have hJ : ∀ a : Int × sv_S, (sv_R a.1 ∧ sm_ok (sv_sts (sv_up S 33 p1 (0 : Int)) [32, 33] a.2) ∧ (sm_HD (a.2 32) (a.2 33) (p1 + 1) (S 1007 0) ∧ (∀ k : Int, ¬ k = p1 → (a.2 33 k) = (S 33 k)) ∧ 0 ≤ a.1 ∧ a.1 ≤ (S 20 p1))) → sv_T sm_XS sm_cs sm_L sm_sh 2 (q_findVariables p1 S) 117 9 [(0, .ref 0), (1, sv_I p1), (2, sv_I a.1)] [] (sv_sts (sv_up S 33 p1 (0 : Int)) [32, 33] a.2) := by
    refine sv_loop (α := Int × sv_S) (fun a => sv_R a.1 ∧ sm_ok (sv_sts (sv_up S 33 p1 (0 : Int)) [32, 33] a.2) ∧ (sm_HD (a.2 32) (a.2 33) (p1 + 1) (S 1007 0) ∧ (∀ k : Int, ¬ k = p1 → (a.2 33 k) = (S 33 k)) ∧ 0 ≤ a.1 ∧ a.1 ≤ (S 20 p1))) (fun a => (S 20 p1) - a.1) (fun a => sv_T sm_XS sm_cs sm_L sm_sh 2 (q_findVariables p1 S) 117 9 [(0, .ref 0), (1, sv_I p1), (2, sv_I a.1)] [] (sv_sts (sv_up S 33 p1 (0 : Int)) [32, 33] a.2)) (fun a q => (h a.1 q.1 a.2 q.2.2).1) (fun a q ih9 => ?_)
    obtain ⟨l2_8, g7⟩ := a
    obtain ⟨hl2_8, ok11, hin10i⟩ := q
    have h := (h l2_8 hl2_8 g7 hin10i).2
    show sv_T sm_XS sm_cs sm_L sm_sh 2 (q_findVariables p1 S) 117 9 [(0, .ref 0), (1, sv_I p1), (2, sv_I l2_8)] [] (sv_sts (sv_up S 33 p1 (0 : Int)) [32, 33] g7)
    have md12 : sv_mod [32, 33] S (sv_sts (sv_up S 33 p1 (0 : Int)) [32, 33] g7) := sv_mod.sts md5 (by decide)
    have md13 : sv_mod [32, 33] (sv_up S 33 p1 (0 : Int)) (sv_sts (sv_up S 33 p1 (0 : Int)) [32, 33] g7) := sv_mod.sts sv_mod.rf (by decide)
    refine sv_iload_n hM dX12_findVariables_9 rfl rfl ?_
    refine sv_aload_n hM dX12_findVariables_10 rfl rfl ?_
    refine sv_getA hM dX12_findVariables_11 sm_fl_71 (sm_a0 _) sm_k36 rfl ?_
    refine sv_iload_n hM dX12_findVariables_14 rfl rfl ?_
    have k14 : sv_R (S 20 p1) := sm_okI ok11 sm_r20 p1
    have h := h k14
    refine sv_iald hM dX12_findVariables_15 (sm_a20 _) (by decide) o3.1 o3.2 rfl (x := (S 20 p1)) rfl ?_
    refine sv_icmp_ge hM dX12_findVariables_16 hl2_8 k14 (t := 41) rfl rfl (fun hc => ?_) (fun hc => ?_)
    · have h := h.1 (hc)
      have J42 : ∀ g15 : sv_S, sm_ok (sv_sts (sv_sts (sv_up S 33 p1 (0 : Int)) [32, 33] g7) [32, 33] g15) → (sm_HD (g15 32) (g15 33) (p1 + 1) (S 1007 0) ∧ (∀ k : Int, ¬ k = p1 → (g15 33 k) = (S 33 k))) → sv_T sm_XS sm_cs sm_L sm_sh 2 (q_findVariables p1 S) 117 71 [(0, .ref 0), (1, sv_I p1), (2, sv_I l2_8)] [] (sv_sts (sv_sts (sv_up S 33 p1 (0 : Int)) [32, 33] g7) [32, 33] g15) := by
        intro  g15 ok16 hin17
        have h := h.1 g15 hin17
        have md18 : sv_mod [32, 33] S (sv_sts (sv_sts (sv_up S 33 p1 (0 : Int)) [32, 33] g7) [32, 33] g15) := sv_mod.sts md12 (by decide)
        have md19 : sv_mod [32, 33] (sv_up S 33 p1 (0 : Int)) (sv_sts (sv_sts (sv_up S 33 p1 (0 : Int)) [32, 33] g7) [32, 33] g15) := sv_mod.sts md13 (by decide)
        have md20 : sv_mod [32, 33] (sv_sts (sv_up S 33 p1 (0 : Int)) [32, 33] g7) (sv_sts (sv_sts (sv_up S 33 p1 (0 : Int)) [32, 33] g7) [32, 33] g15) := sv_mod.sts sv_mod.rf (by decide)
        refine sv_iconst (d := (0 : Int)) hM dX12_findVariables_71 rfl rfl ?_
        refine sv_istore_n hM dX12_findVariables_72 (by decide) rfl ?_
        show sv_T sm_XS sm_cs sm_L sm_sh 2 (q_findVariables p1 S) 117 73 [(0, .ref 0), (1, sv_I p1), (2, sv_I (0 : Int))] [] (sv_sts (sv_sts (sv_up S 33 p1 (0 : Int)) [32, 33] g7) [32, 33] g15)
        obtain ⟨hin24, h⟩ := h
        have hJ : ∀ a : Int × sv_S, (sv_R a.1 ∧ sm_ok (sv_sts (sv_sts (sv_sts (sv_up S 33 p1 (0 : Int)) [32, 33] g7) [32, 33] g15) [32, 33] a.2) ∧ (sm_HD (a.2 32) (a.2 33) (p1 + 1) (S 1007 0) ∧ (∀ k : Int, ¬ k = p1 → (a.2 33 k) = (S 33 k)) ∧ 0 ≤ a.1 ∧ a.1 ≤ (S 24 p1))) → sv_T sm_XS sm_cs sm_L sm_sh 2 (q_findVariables p1 S) 117 73 [(0, .ref 0), (1, sv_I p1), (2, sv_I a.1)] [] (sv_sts (sv_sts (sv_sts (sv_up S 33 p1 (0 : Int)) [32, 33] g7) [32, 33] g15) [32, 33] a.2) := by
          refine sv_loop (α := Int × sv_S) (fun a => sv_R a.1 ∧ sm_ok (sv_sts (sv_sts (sv_sts (sv_up S 33 p1 (0 : Int)) [32, 33] g7) [32, 33] g15) [32, 33] a.2) ∧ (sm_HD (a.2 32) (a.2 33) (p1 + 1) (S 1007 0) ∧ (∀ k : Int, ¬ k = p1 → (a.2 33 k) = (S 33 k)) ∧ 0 ≤ a.1 ∧ a.1 ≤ (S 24 p1))) (fun a => (S 24 p1) - a.1) (fun a => sv_T sm_XS sm_cs sm_L sm_sh 2 (q_findVariables p1 S) 117 73 [(0, .ref 0), (1, sv_I p1), (2, sv_I a.1)] [] (sv_sts (sv_sts (sv_sts (sv_up S 33 p1 (0 : Int)) [32, 33] g7) [32, 33] g15) [32, 33] a.2)) (fun a q => (h a.1 q.1 a.2 q.2.2).1) (fun a q ih23 => ?_)
          obtain ⟨l2_22, g21⟩ := a
          obtain ⟨hl2_22, ok25, hin24i⟩ := q
          have h := (h l2_22 hl2_22 g21 hin24i).2
          show sv_T sm_XS sm_cs sm_L sm_sh 2 (q_findVariables p1 S) 117 73 [(0, .ref 0), (1, sv_I p1), (2, sv_I l2_22)] [] (sv_sts (sv_sts (sv_sts (sv_up S 33 p1 (0 : Int)) [32, 33] g7) [32, 33] g15) [32, 33] g21)
          have md26 : sv_mod [32, 33] S (sv_sts (sv_sts (sv_sts (sv_up S 33 p1 (0 : Int)) [32, 33] g7) [32, 33] g15) [32, 33] g21) := sv_mod.sts md18 (by decide)
          have md27 : sv_mod [32, 33] (sv_up S 33 p1 (0 : Int)) (sv_sts (sv_sts (sv_sts (sv_up S 33 p1 (0 : Int)) [32, 33] g7) [32, 33] g15) [32, 33] g21) := sv_mod.sts md19 (by decide)
          have md28 : sv_mod [32, 33] (sv_sts (sv_sts (sv_up S 33 p1 (0 : Int)) [32, 33] g7) [32, 33] g15) (sv_sts (sv_sts (sv_sts (sv_up S 33 p1 (0 : Int)) [32, 33] g7) [32, 33] g15) [32, 33] g21) := sv_mod.sts sv_mod.rf (by decide)
          refine sv_iload_n hM dX12_findVariables_73 rfl rfl ?_
          refine sv_aload_n hM dX12_findVariables_74 rfl rfl ?_
          refine sv_getA hM dX12_findVariables_75 sm_fl_83 (sm_a0 _) sm_k40 rfl ?_
          refine sv_iload_n hM dX12_findVariables_78 rfl rfl ?_
          have k29 : sv_R (S 24 p1) := sm_okI ok25 sm_r24 p1
          have h := h k29
          refine sv_iald hM dX12_findVariables_79 (sm_a24 _) (by decide) o3.1 o3.2 rfl (x := (S 24 p1)) rfl ?_
          refine sv_icmp_ge hM dX12_findVariables_80 hl2_22 k29 (t := 105) rfl rfl (fun hc => ?_) (fun hc => ?_)
          · have h := h.1 (hc)
            exact sv_vret hM dX12_findVariables_105 rfl ⟨rfl, ok25, md26, h⟩
          · have h := h.2 (hc)
            have k30 : (sm_HD (S 23) (S 24) (S 1100018 0) (S 1007 0) → 0 ≤ p1 → p1 < (S 1100018 0) → p1 < 12 → 0 ≤ l2_22 → l2_22 < (S 24 p1) → 0 ≤ (S 23 (100 * p1 + l2_22)) ∧ (S 23 (100 * p1 + l2_22)) < (S 1007 0)) := fun h a b d e g => (h _ a b d).2.2.1 _ e g
            have h := h k30
            refine sv_aload_n hM dX12_findVariables_83 rfl rfl ?_
            refine sv_iload_n hM dX12_findVariables_84 rfl rfl ?_
            refine sv_aload_n hM dX12_findVariables_85 rfl rfl ?_
            refine sv_getA hM dX12_findVariables_86 sm_fl_80 (sm_a0 _) sm_k39 rfl ?_
            refine sv_bipush (d := (100 : Int)) hM dX12_findVariables_89 rfl rfl ?_
            refine sv_iload_n hM dX12_findVariables_91 rfl rfl ?_
            refine sv_imul hM dX12_findVariables_92 rfl ?_
            refine sv_iload_n hM dX12_findVariables_93 rfl rfl ?_
            refine sv_iadd hM dX12_findVariables_94 rfl ?_
            obtain ⟨o31, h⟩ := h
            have k32 : sv_R (S 23 (((100 : Int) * p1) + l2_22)) := sm_okI ok25 sm_r23 (((100 : Int) * p1) + l2_22)
            have h := h k32
            refine sv_iald hM dX12_findVariables_95 (sm_a23 _) (by decide) o31.1 o31.2 rfl (x := (S 23 (((100 : Int) * p1) + l2_22))) rfl ?_
            obtain ⟨o33, h⟩ := h
            refine sv_callV hM dX12_findVariables_96 sm_iv_750 (by decide) (sm_a0 _) rfl rfl (Nat.le_of_ble_eq_true rfl) sm_h118 (Nat.le_of_ble_eq_true rfl) (Nat.le_of_ble_eq_true rfl) (F' := 1) (Nat.le_of_ble_eq_true rfl) rfl (t_addVariable p1 (S 23 (((100 : Int) * p1) + l2_22)) (sv_sts (sv_sts (sv_sts (sv_up S 33 p1 (0 : Int)) [32, 33] g7) [32, 33] g15) [32, 33] g21) ok25 hp1 k32 o33) (fun v S1 hq => ?_)
            obtain ⟨rfl, ok35, md36, hpo37⟩ := hq
            obtain ⟨g34, rfl⟩ : ∃ g, S1 = sv_sts (sv_sts (sv_sts (sv_sts (sv_up S 33 p1 (0 : Int)) [32, 33] g7) [32, 33] g15) [32, 33] g21) [32, 33] g := ⟨_, md36.eq⟩
            show sv_T sm_XS sm_cs sm_L sm_sh 2 (q_findVariables p1 S) 117 99 [(0, .ref 0), (1, sv_I p1), (2, sv_I l2_22)] [] (sv_sts (sv_sts (sv_sts (sv_sts (sv_up S 33 p1 (0 : Int)) [32, 33] g7) [32, 33] g15) [32, 33] g21) [32, 33] g34)
            have md38 : sv_mod [32, 33] S (sv_sts (sv_sts (sv_sts (sv_sts (sv_up S 33 p1 (0 : Int)) [32, 33] g7) [32, 33] g15) [32, 33] g21) [32, 33] g34) := sv_mod.sts md26 (by decide)
            have md39 : sv_mod [32, 33] (sv_up S 33 p1 (0 : Int)) (sv_sts (sv_sts (sv_sts (sv_sts (sv_up S 33 p1 (0 : Int)) [32, 33] g7) [32, 33] g15) [32, 33] g21) [32, 33] g34) := sv_mod.sts md27 (by decide)
            have md40 : sv_mod [32, 33] (sv_sts (sv_sts (sv_up S 33 p1 (0 : Int)) [32, 33] g7) [32, 33] g15) (sv_sts (sv_sts (sv_sts (sv_sts (sv_up S 33 p1 (0 : Int)) [32, 33] g7) [32, 33] g15) [32, 33] g21) [32, 33] g34) := sv_mod.sts md28 (by decide)
            have h := h g34 hpo37
            refine sv_iinc (d := (1 : Int)) hM dX12_findVariables_99 rfl (by decide) rfl rfl ?_
            show sv_T sm_XS sm_cs sm_L sm_sh 2 (q_findVariables p1 S) 117 102 [(0, .ref 0), (1, sv_I p1), (2, sv_I (l2_22 + (1 : Int)))] [] (sv_sts (sv_sts (sv_sts (sv_sts (sv_up S 33 p1 (0 : Int)) [32, 33] g7) [32, 33] g15) [32, 33] g21) [32, 33] g34)
            refine sv_goto hM dX12_findVariables_102 (pc' := 73) rfl ?_
            obtain ⟨o41, h⟩ := h
            have eS := sv_mod.eq md40
            have hb := ih23 ((l2_22 + (1 : Int)), (sv_sts (sv_sts (sv_sts (sv_sts (sv_up S 33 p1 (0 : Int)) [32, 33] g7) [32, 33] g15) [32, 33] g21) [32, 33] g34)) ⟨o41, (by rw [← eS]; exact ok35), h.1⟩ h.2
            have hb : sv_T sm_XS sm_cs sm_L sm_sh 2 (q_findVariables p1 S) 117 73 [(0, .ref 0), (1, sv_I p1), (2, sv_I (l2_22 + (1 : Int)))] [] (sv_sts (sv_sts (sv_sts (sv_sts (sv_up S 33 p1 (0 : Int)) [32, 33] g7) [32, 33] g15) [32, 33] g21) [32, 33] g34) := Eq.mpr (congrArg (fun Z => sv_T sm_XS sm_cs sm_L sm_sh 2 (q_findVariables p1 S) 117 73 [(0, .ref 0), (1, sv_I p1), (2, sv_I (l2_22 + (1 : Int)))] [] Z) eS) hb
            exact sv_less (lv := [(0, .ref 0), (1, sv_I p1), (2, sv_I (l2_22 + (1 : Int)))]) (sv_Sub_cons rfl (sv_Sub_cons rfl (sv_Sub_cons rfl sv_Sub_nil))) hb
        have eS := sv_mod.eq (sv_mod.rf (l := [32, 33]) (S := (sv_sts (sv_sts (sv_up S 33 p1 (0 : Int)) [32, 33] g7) [32, 33] g15)))
        have hb := hJ ((0 : Int), (sv_sts (sv_sts (sv_up S 33 p1 (0 : Int)) [32, 33] g7) [32, 33] g15)) ⟨(⟨by decide, by decide⟩ : sv_R (0 : Int)), (by rw [← eS]; exact ok16), hin24⟩
        have hb : sv_T sm_XS sm_cs sm_L sm_sh 2 (q_findVariables p1 S) 117 73 [(0, .ref 0), (1, sv_I p1), (2, sv_I (0 : Int))] [] (sv_sts (sv_sts (sv_up S 33 p1 (0 : Int)) [32, 33] g7) [32, 33] g15) := Eq.mpr (congrArg (fun Z => sv_T sm_XS sm_cs sm_L sm_sh 2 (q_findVariables p1 S) 117 73 [(0, .ref 0), (1, sv_I p1), (2, sv_I (0 : Int))] [] Z) eS) hb
        exact hb
      have h := h.2
      refine sv_aload_n hM dX12_findVariables_41 rfl rfl ?_
      refine sv_getA hM dX12_findVariables_42 sm_fl_65 (sm_a0 _) sm_k34 rfl ?_
      refine sv_iload_n hM dX12_findVariables_45 rfl rfl ?_
      have k43 : (0 ≤ (S 18 p1) ∧ (S 18 p1) ≤ 1) := sm_okZ ok11 sm_r18 p1
      have h := h k43
      refine sv_zald hM dX12_findVariables_46 (sm_a18 _) (by decide) o3.1 o3.2 rfl (x := (S 18 p1)) rfl ?_
      refine sv_cond_ne hM dX12_findVariables_47 (sv_R01 k43) (t := 71) rfl rfl (fun hc => ?_) (fun hc => ?_)
      · have h := h.1 (hc)
        have eS := sv_mod.eq (sv_mod.rf (l := [32, 33]) (S := (sv_sts (sv_up S 33 p1 (0 : Int)) [32, 33] g7)))
        have hb := J42 (sv_sts (sv_up S 33 p1 (0 : Int)) [32, 33] g7) (by rw [← eS]; exact ok11) h
        have hb : sv_T sm_XS sm_cs sm_L sm_sh 2 (q_findVariables p1 S) 117 71 [(0, .ref 0), (1, sv_I p1), (2, sv_I l2_8)] [] (sv_sts (sv_up S 33 p1 (0 : Int)) [32, 33] g7) := Eq.mpr (congrArg (fun Z => sv_T sm_XS sm_cs sm_L sm_sh 2 (q_findVariables p1 S) 117 71 [(0, .ref 0), (1, sv_I p1), (2, sv_I l2_8)] [] Z) eS) hb
        exact sv_less (lv := [(0, .ref 0), (1, sv_I p1), (2, sv_I l2_8)]) (sv_Sub_cons rfl (sv_Sub_cons rfl (sv_Sub_cons rfl sv_Sub_nil))) hb
      · have h := h.2 (hc)
        refine sv_aload_n hM dX12_findVariables_50 rfl rfl ?_
        refine sv_getA hM dX12_findVariables_51 sm_fl_62 (sm_a0 _) sm_k33 rfl ?_
        refine sv_iload_n hM dX12_findVariables_54 rfl rfl ?_
        have k44 : sv_R (S 17 p1) := sm_okI ok11 sm_r17 p1
        have h := h k44
        refine sv_iald hM dX12_findVariables_55 (sm_a17 _) (by decide) o3.1 o3.2 rfl (x := (S 17 p1)) rfl ?_
        refine sv_iconst (d := (-1 : Int)) hM dX12_findVariables_56 rfl rfl ?_
        refine sv_icmp_eq hM dX12_findVariables_57 k44 (⟨by decide, by decide⟩ : sv_R (-1 : Int)) (t := 71) rfl rfl (fun hc => ?_) (fun hc => ?_)
        · have h := h.1 (hc)
          have eS := sv_mod.eq (sv_mod.rf (l := [32, 33]) (S := (sv_sts (sv_up S 33 p1 (0 : Int)) [32, 33] g7)))
          have hb := J42 (sv_sts (sv_up S 33 p1 (0 : Int)) [32, 33] g7) (by rw [← eS]; exact ok11) h
          have hb : sv_T sm_XS sm_cs sm_L sm_sh 2 (q_findVariables p1 S) 117 71 [(0, .ref 0), (1, sv_I p1), (2, sv_I l2_8)] [] (sv_sts (sv_up S 33 p1 (0 : Int)) [32, 33] g7) := Eq.mpr (congrArg (fun Z => sv_T sm_XS sm_cs sm_L sm_sh 2 (q_findVariables p1 S) 117 71 [(0, .ref 0), (1, sv_I p1), (2, sv_I l2_8)] [] Z) eS) hb
          exact sv_less (lv := [(0, .ref 0), (1, sv_I p1), (2, sv_I l2_8)]) (sv_Sub_cons rfl (sv_Sub_cons rfl (sv_Sub_cons rfl sv_Sub_nil))) hb
        · have h := h.2 (hc)
          refine sv_aload_n hM dX12_findVariables_60 rfl rfl ?_
          refine sv_iload_n hM dX12_findVariables_61 rfl rfl ?_
          refine sv_aload_n hM dX12_findVariables_62 rfl rfl ?_
          refine sv_getA hM dX12_findVariables_63 sm_fl_62 (sm_a0 _) sm_k33 rfl ?_
          refine sv_iload_n hM dX12_findVariables_66 rfl rfl ?_
          refine sv_iald hM dX12_findVariables_67 (sm_a17 _) (by decide) o3.1 o3.2 rfl (x := (S 17 p1)) rfl ?_
          obtain ⟨o45, h⟩ := h
          refine sv_callV hM dX12_findVariables_68 sm_iv_750 (by decide) (sm_a0 _) rfl rfl (Nat.le_of_ble_eq_true rfl) sm_h118 (Nat.le_of_ble_eq_true rfl) (Nat.le_of_ble_eq_true rfl) (F' := 1) (Nat.le_of_ble_eq_true rfl) rfl (t_addVariable p1 (S 17 p1) (sv_sts (sv_up S 33 p1 (0 : Int)) [32, 33] g7) ok11 hp1 k44 o45) (fun v S1 hq => ?_)
          obtain ⟨rfl, ok47, md48, hpo49⟩ := hq
          obtain ⟨g46, rfl⟩ : ∃ g, S1 = sv_sts (sv_sts (sv_up S 33 p1 (0 : Int)) [32, 33] g7) [32, 33] g := ⟨_, md48.eq⟩
          show sv_T sm_XS sm_cs sm_L sm_sh 2 (q_findVariables p1 S) 117 71 [(0, .ref 0), (1, sv_I p1), (2, sv_I l2_8)] [] (sv_sts (sv_sts (sv_up S 33 p1 (0 : Int)) [32, 33] g7) [32, 33] g46)
          have md50 : sv_mod [32, 33] S (sv_sts (sv_sts (sv_up S 33 p1 (0 : Int)) [32, 33] g7) [32, 33] g46) := sv_mod.sts md12 (by decide)
          have md51 : sv_mod [32, 33] (sv_up S 33 p1 (0 : Int)) (sv_sts (sv_sts (sv_up S 33 p1 (0 : Int)) [32, 33] g7) [32, 33] g46) := sv_mod.sts md13 (by decide)
          have md52 : sv_mod [32, 33] (sv_sts (sv_up S 33 p1 (0 : Int)) [32, 33] g7) (sv_sts (sv_sts (sv_up S 33 p1 (0 : Int)) [32, 33] g7) [32, 33] g46) := sv_mod.sts (sv_mod.rf (l := [32, 33]) (S := (sv_sts (sv_up S 33 p1 (0 : Int)) [32, 33] g7))) (by decide)
          have h := h g46 hpo49
          have eS := sv_mod.eq md52
          have hb := J42 (sv_sts (sv_sts (sv_up S 33 p1 (0 : Int)) [32, 33] g7) [32, 33] g46) (by rw [← eS]; exact ok47) h
          have hb : sv_T sm_XS sm_cs sm_L sm_sh 2 (q_findVariables p1 S) 117 71 [(0, .ref 0), (1, sv_I p1), (2, sv_I l2_8)] [] (sv_sts (sv_sts (sv_up S 33 p1 (0 : Int)) [32, 33] g7) [32, 33] g46) := Eq.mpr (congrArg (fun Z => sv_T sm_XS sm_cs sm_L sm_sh 2 (q_findVariables p1 S) 117 71 [(0, .ref 0), (1, sv_I p1), (2, sv_I l2_8)] [] Z) eS) hb
          exact sv_less (lv := [(0, .ref 0), (1, sv_I p1), (2, sv_I l2_8)]) (sv_Sub_cons rfl (sv_Sub_cons rfl (sv_Sub_cons rfl sv_Sub_nil))) hb
    · have h := h.2 (hc)
      have k53 : (sm_PM (S 19) (S 20 p1) p1 (S 1007 0) (S 1009 0) → 0 ≤ l2_8 → l2_8 < (S 20 p1) → (S 1009 0) = 0 → 0 ≤ (S 19 (8 * p1 + l2_8)) ∧ (S 19 (8 * p1 + l2_8)) < (S 1007 0)) := fun h a b d => by obtain ⟨u, v, w⟩ := h.2.2 _ a b; exact ⟨by omega, v⟩
      have h := h k53
      refine sv_aload_n hM dX12_findVariables_19 rfl rfl ?_
      refine sv_iload_n hM dX12_findVariables_20 rfl rfl ?_
      refine sv_aload_n hM dX12_findVariables_21 rfl rfl ?_
      refine sv_getA hM dX12_findVariables_22 sm_fl_68 (sm_a0 _) sm_k35 rfl ?_
      refine sv_bipush (d := (8 : Int)) hM dX12_findVariables_25 rfl rfl ?_
      refine sv_iload_n hM dX12_findVariables_27 rfl rfl ?_
      refine sv_imul hM dX12_findVariables_28 rfl ?_
      refine sv_iload_n hM dX12_findVariables_29 rfl rfl ?_
      refine sv_iadd hM dX12_findVariables_30 rfl ?_
      obtain ⟨o54, h⟩ := h
      have k55 : sv_R (S 19 (((8 : Int) * p1) + l2_8)) := sm_okI ok11 sm_r19 (((8 : Int) * p1) + l2_8)
      have h := h k55
      refine sv_iald hM dX12_findVariables_31 (sm_a19 _) (by decide) o54.1 o54.2 rfl (x := (S 19 (((8 : Int) * p1) + l2_8))) rfl ?_
      obtain ⟨o56, h⟩ := h
      refine sv_callV hM dX12_findVariables_32 sm_iv_750 (by decide) (sm_a0 _) rfl rfl (Nat.le_of_ble_eq_true rfl) sm_h118 (Nat.le_of_ble_eq_true rfl) (Nat.le_of_ble_eq_true rfl) (F' := 1) (Nat.le_of_ble_eq_true rfl) rfl (t_addVariable p1 (S 19 (((8 : Int) * p1) + l2_8)) (sv_sts (sv_up S 33 p1 (0 : Int)) [32, 33] g7) ok11 hp1 k55 o56) (fun v S1 hq => ?_)
      obtain ⟨rfl, ok58, md59, hpo60⟩ := hq
      obtain ⟨g57, rfl⟩ : ∃ g, S1 = sv_sts (sv_sts (sv_up S 33 p1 (0 : Int)) [32, 33] g7) [32, 33] g := ⟨_, md59.eq⟩
      show sv_T sm_XS sm_cs sm_L sm_sh 2 (q_findVariables p1 S) 117 35 [(0, .ref 0), (1, sv_I p1), (2, sv_I l2_8)] [] (sv_sts (sv_sts (sv_up S 33 p1 (0 : Int)) [32, 33] g7) [32, 33] g57)
      have md61 : sv_mod [32, 33] S (sv_sts (sv_sts (sv_up S 33 p1 (0 : Int)) [32, 33] g7) [32, 33] g57) := sv_mod.sts md12 (by decide)
      have md62 : sv_mod [32, 33] (sv_up S 33 p1 (0 : Int)) (sv_sts (sv_sts (sv_up S 33 p1 (0 : Int)) [32, 33] g7) [32, 33] g57) := sv_mod.sts md13 (by decide)
      have h := h g57 hpo60
      refine sv_iinc (d := (1 : Int)) hM dX12_findVariables_35 rfl (by decide) rfl rfl ?_
      show sv_T sm_XS sm_cs sm_L sm_sh 2 (q_findVariables p1 S) 117 38 [(0, .ref 0), (1, sv_I p1), (2, sv_I (l2_8 + (1 : Int)))] [] (sv_sts (sv_sts (sv_up S 33 p1 (0 : Int)) [32, 33] g7) [32, 33] g57)
      refine sv_goto hM dX12_findVariables_38 (pc' := 9) rfl ?_
      obtain ⟨o63, h⟩ := h
      have eS := sv_mod.eq md62
      have hb := ih9 ((l2_8 + (1 : Int)), (sv_sts (sv_sts (sv_up S 33 p1 (0 : Int)) [32, 33] g7) [32, 33] g57)) ⟨o63, (by rw [← eS]; exact ok58), h.1⟩ h.2
      have hb : sv_T sm_XS sm_cs sm_L sm_sh 2 (q_findVariables p1 S) 117 9 [(0, .ref 0), (1, sv_I p1), (2, sv_I (l2_8 + (1 : Int)))] [] (sv_sts (sv_sts (sv_up S 33 p1 (0 : Int)) [32, 33] g7) [32, 33] g57) := Eq.mpr (congrArg (fun Z => sv_T sm_XS sm_cs sm_L sm_sh 2 (q_findVariables p1 S) 117 9 [(0, .ref 0), (1, sv_I p1), (2, sv_I (l2_8 + (1 : Int)))] [] Z) eS) hb
      exact sv_less (lv := [(0, .ref 0), (1, sv_I p1), (2, sv_I (l2_8 + (1 : Int)))]) (sv_Sub_cons rfl (sv_Sub_cons rfl (sv_Sub_cons rfl sv_Sub_nil))) hb
  have eS := sv_mod.eq (sv_mod.rf (l := [32, 33]) (S := (sv_up S 33 p1 (0 : Int))))
  have hb := hJ ((0 : Int), (sv_up S 33 p1 (0 : Int))) ⟨(⟨by decide, by decide⟩ : sv_R (0 : Int)), (by rw [← eS]; exact ok4), hin10⟩
  have hb : sv_T sm_XS sm_cs sm_L sm_sh 2 (q_findVariables p1 S) 117 9 [(0, .ref 0), (1, sv_I p1), (2, sv_I (0 : Int))] [] (sv_up S 33 p1 (0 : Int)) := Eq.mpr (congrArg (fun Z => sv_T sm_XS sm_cs sm_L sm_sh 2 (q_findVariables p1 S) 117 9 [(0, .ref 0), (1, sv_I p1), (2, sv_I (0 : Int))] [] Z) eS) hb
  exact hb
def q_isJump (p0 : Int) (S : sv_S) : Option Value → sv_S → Prop := fun v S' => ∃ r : Int, v = some (sv_I r) ∧ sv_R r ∧ sm_ok S' ∧ sv_mod [] S S' ∧ (r = (if 21 ≤ p0 ∧ p0 ≤ 24 ∨ p0 = 27 ∨ p0 = 30 then 1 else 0))
theorem la_isJump_0 {x0 x1 : Int} (h0 : x0 < 21) : x0 = 27 → 1 = x1 := by omega
theorem la_isJump_1 {x0 : Int} (h0 : x0 < 21) : x0 ≤ 27 := by omega
theorem la_isJump_2 {x0 : Int} (h0 : x0 ≤ 27) (h1 : ¬ x0 = 27) : x0 < 27 := by omega
theorem la_isJump_3 {x0 : Int} (h0 : x0 < 21) : x0 ≤ 30 := by omega
theorem la_isJump_4 {x0 : Int} (h0 : x0 ≤ 30) (h1 : ¬ x0 = 30) : x0 < 30 := by omega
theorem la_isJump_5 {x0 : Int} (h0 : x0 < 21) : ¬ (21 ≤ x0 ∧ x0 ≤ 24 ∨ x0 = 27 ∨ x0 = 30) := by omega
theorem la_isJump_6 {x0 : Int} (h0 : 0 ≤ x0) (h1 : x0 = 0) : 0 = x0 := by omega
theorem la_isJump_7 {x0 : Int} (h0 : x0 < 21) (h1 : ¬ ¬ x0 = 30) : 21 ≤ x0 ∧ x0 ≤ 24 ∨ x0 = 27 ∨ x0 = 30 := by omega
theorem la_isJump_8 {x0 : Int} (h0 : x0 ≤ 1) (h1 : x0 = 1) : 1 = x0 := by omega
theorem la_isJump_9 {x0 : Int} (h0 : ¬ x0 < 21) (h1 : x0 ≤ 24) : 21 ≤ x0 ∧ x0 ≤ 24 ∨ x0 = 27 ∨ x0 = 30 := by omega
theorem la_isJump_10 {x0 : Int} (h0 : x0 = 27) : 21 ≤ x0 ∧ x0 ≤ 24 ∨ x0 = 27 ∨ x0 = 30 := by omega
theorem la_isJump_11 {x0 : Int} (h0 : ¬ x0 ≤ 24) (h1 : ¬ x0 = 27) (h2 : ¬ x0 = 30) : ¬ (21 ≤ x0 ∧ x0 ≤ 24 ∨ x0 = 27 ∨ x0 = 30) := by omega
theorem la_isJump_12 {x0 : Int} (h0 : ¬ ¬ x0 = 30) : 27 ≤ x0 := by omega
theorem la_isJump_13 {x0 : Int} (h0 : 27 ≤ x0) (h1 : ¬ x0 = 27) : 27 < x0 := by omega
theorem la_isJump_14 {x0 : Int} (h0 : ¬ ¬ x0 = 30) : 21 ≤ x0 ∧ x0 ≤ 24 ∨ x0 = 27 ∨ x0 = 30 := by omega
set_option maxHeartbeats 2000000 in
theorem f_isJump : ∀ (p0 : Int) (S : sv_S), sm_ok S → sv_R p0 → (True) → (((p0 < (21 : Int)) → (((p0 = (27 : Int)) → ((1 : Int) = (if 21 ≤ p0 ∧ p0 ≤ 24 ∨ p0 = 27 ∨ p0 = 30 then 1 else 0))) ∧ ((¬ (p0 = (27 : Int))) → (((¬ p0 = (30 : Int)) → ((0 : Int) = (if 21 ≤ p0 ∧ p0 ≤ 24 ∨ p0 = 27 ∨ p0 = 30 then 1 else 0))) ∧ ((¬ (¬ p0 = (30 : Int))) → ((1 : Int) = (if 21 ≤ p0 ∧ p0 ≤ 24 ∨ p0 = 27 ∨ p0 = 30 then 1 else 0))))))) ∧ ((¬ (p0 < (21 : Int))) → (((p0 ≤ (24 : Int)) → ((1 : Int) = (if 21 ≤ p0 ∧ p0 ≤ 24 ∨ p0 = 27 ∨ p0 = 30 then 1 else 0))) ∧ ((¬ (p0 ≤ (24 : Int))) → (((p0 = (27 : Int)) → ((1 : Int) = (if 21 ≤ p0 ∧ p0 ≤ 24 ∨ p0 = 27 ∨ p0 = 30 then 1 else 0))) ∧ ((¬ (p0 = (27 : Int))) → (((¬ p0 = (30 : Int)) → ((0 : Int) = (if 21 ≤ p0 ∧ p0 ≤ 24 ∨ p0 = 27 ∨ p0 = 30 then 1 else 0))) ∧ ((¬ (¬ p0 = (30 : Int))) → ((1 : Int) = (if 21 ≤ p0 ∧ p0 ≤ 24 ∨ p0 = 27 ∨ p0 = 30 then 1 else 0)))))))))) := by
  intro p0
  intro S
  intro h1_
  intro h2_
  intro _
  refine ⟨?_, ?_⟩
  · skip
    intro h3_
    refine ⟨(la_isJump_0 h3_), ?_⟩
    intro h4_
    refine ⟨?_, ?_⟩
    · skip
      intro h5_
      have e6_ : (if 21 ≤ p0 ∧ p0 ≤ 24 ∨ p0 = 27 ∨ p0 = 30 then 1 else 0 : Int) = 0 := if_neg (la_isJump_5 h3_)
      exact (la_isJump_6 (sv_i01 (p := 21 ≤ p0 ∧ p0 ≤ 24 ∨ p0 = 27 ∨ p0 = 30)).1 e6_)
    intro h7_
    have e8_ : (if 21 ≤ p0 ∧ p0 ≤ 24 ∨ p0 = 27 ∨ p0 = 30 then 1 else 0 : Int) = 1 := if_pos (la_isJump_7 h3_ h7_)
    exact (la_isJump_8 (sv_i01 (p := 21 ≤ p0 ∧ p0 ≤ 24 ∨ p0 = 27 ∨ p0 = 30)).2 e8_)
  intro h9_
  refine ⟨?_, ?_⟩
  · skip
    intro h10_
    have e11_ : (if 21 ≤ p0 ∧ p0 ≤ 24 ∨ p0 = 27 ∨ p0 = 30 then 1 else 0 : Int) = 1 := if_pos (la_isJump_9 h9_ h10_)
    exact (la_isJump_8 (sv_i01 (p := 21 ≤ p0 ∧ p0 ≤ 24 ∨ p0 = 27 ∨ p0 = 30)).2 e11_)
  intro h12_
  refine ⟨?_, ?_⟩
  · skip
    intro h13_
    have e14_ : (if 21 ≤ p0 ∧ p0 ≤ 24 ∨ p0 = 27 ∨ p0 = 30 then 1 else 0 : Int) = 1 := if_pos (la_isJump_10 h13_)
    exact (la_isJump_8 (sv_i01 (p := 21 ≤ p0 ∧ p0 ≤ 24 ∨ p0 = 27 ∨ p0 = 30)).2 e14_)
  intro h15_
  refine ⟨?_, ?_⟩
  · skip
    intro h16_
    have e17_ : (if 21 ≤ p0 ∧ p0 ≤ 24 ∨ p0 = 27 ∨ p0 = 30 then 1 else 0 : Int) = 0 := if_neg (la_isJump_11 h12_ h15_ h16_)
    exact (la_isJump_6 (sv_i01 (p := 21 ≤ p0 ∧ p0 ≤ 24 ∨ p0 = 27 ∨ p0 = 30)).1 e17_)
  intro h18_
  have e19_ : (if 21 ≤ p0 ∧ p0 ≤ 24 ∨ p0 = 27 ∨ p0 = 30 then 1 else 0 : Int) = 1 := if_pos (la_isJump_14 h18_)
  exact (la_isJump_8 (sv_i01 (p := 21 ≤ p0 ∧ p0 ≤ 24 ∨ p0 = 27 ∨ p0 = 30)).2 e19_)
set_option maxRecDepth 8000 in
set_option maxHeartbeats 8000000 in
theorem t_isJump : ∀ (p0 : Int) (S : sv_S), sm_ok S → sv_R p0 → (True) → sv_T sm_XS sm_cs sm_L sm_sh 0 (q_isJump p0 S) 119 0 (lv_args 0 [sv_I p0]) [] S := by
  intro p0 S hok hp0 hpre
  have h := f_isJump p0 S hok hp0 hpre
  have hM := sm_h119
  show sv_T sm_XS sm_cs sm_L sm_sh 0 (q_isJump p0 S) 119 0 [(0, sv_I p0)] [] S
  refine sv_iload_n hM dX12_isJump_0 rfl rfl ?_
  refine sv_bipush (d := (21 : Int)) hM dX12_isJump_1 rfl rfl ?_
  refine sv_icmp_lt hM dX12_isJump_3 hp0 (⟨by decide, by decide⟩ : sv_R (21 : Int)) (t := 12) rfl rfl (fun hc => ?_) (fun hc => ?_)
  · have h := h.1 (hc)
    refine sv_iload_n hM dX12_isJump_12 rfl rfl ?_
    refine sv_bipush (d := (27 : Int)) hM dX12_isJump_13 rfl rfl ?_
    refine sv_icmp_eq hM dX12_isJump_15 hp0 (⟨by decide, by decide⟩ : sv_R (27 : Int)) (t := 24) rfl rfl (fun hc => ?_) (fun hc => ?_)
    · have h := h.1 (hc)
      refine sv_iconst (d := (1 : Int)) hM dX12_isJump_24 rfl rfl ?_
      refine sv_goto hM dX12_isJump_25 (pc' := 29) rfl ?_
      exact sv_iret hM dX12_isJump_29 rfl (sv_nz (⟨by decide, by decide⟩ : 0 ≤ (1 : Int) ∧ (1 : Int) ≤ 1)) ⟨(1 : Int), rfl, sv_R01 (⟨by decide, by decide⟩ : 0 ≤ (1 : Int) ∧ (1 : Int) ≤ 1), hok, sv_mod.rf, h⟩
    · have h := h.2 (hc)
      refine sv_iload_n hM dX12_isJump_18 rfl rfl ?_
      refine sv_bipush (d := (30 : Int)) hM dX12_isJump_19 rfl rfl ?_
      refine sv_icmp_ne hM dX12_isJump_21 hp0 (⟨by decide, by decide⟩ : sv_R (30 : Int)) (t := 28) rfl rfl (fun hc => ?_) (fun hc => ?_)
      · have h := h.1 (hc)
        refine sv_iconst (d := (0 : Int)) hM dX12_isJump_28 rfl rfl ?_
        exact sv_iret hM dX12_isJump_29 rfl (sv_nz (⟨by decide, by decide⟩ : 0 ≤ (0 : Int) ∧ (0 : Int) ≤ 1)) ⟨(0 : Int), rfl, sv_R01 (⟨by decide, by decide⟩ : 0 ≤ (0 : Int) ∧ (0 : Int) ≤ 1), hok, sv_mod.rf, h⟩
      · have h := h.2 (hc)
        refine sv_iconst (d := (1 : Int)) hM dX12_isJump_24 rfl rfl ?_
        refine sv_goto hM dX12_isJump_25 (pc' := 29) rfl ?_
        exact sv_iret hM dX12_isJump_29 rfl (sv_nz (⟨by decide, by decide⟩ : 0 ≤ (1 : Int) ∧ (1 : Int) ≤ 1)) ⟨(1 : Int), rfl, sv_R01 (⟨by decide, by decide⟩ : 0 ≤ (1 : Int) ∧ (1 : Int) ≤ 1), hok, sv_mod.rf, h⟩
  · have h := h.2 (hc)
    refine sv_iload_n hM dX12_isJump_6 rfl rfl ?_
    refine sv_bipush (d := (24 : Int)) hM dX12_isJump_7 rfl rfl ?_
    refine sv_icmp_le hM dX12_isJump_9 hp0 (⟨by decide, by decide⟩ : sv_R (24 : Int)) (t := 24) rfl rfl (fun hc => ?_) (fun hc => ?_)
    · have h := h.1 (hc)
      refine sv_iconst (d := (1 : Int)) hM dX12_isJump_24 rfl rfl ?_
      refine sv_goto hM dX12_isJump_25 (pc' := 29) rfl ?_
      exact sv_iret hM dX12_isJump_29 rfl (sv_nz (⟨by decide, by decide⟩ : 0 ≤ (1 : Int) ∧ (1 : Int) ≤ 1)) ⟨(1 : Int), rfl, sv_R01 (⟨by decide, by decide⟩ : 0 ≤ (1 : Int) ∧ (1 : Int) ≤ 1), hok, sv_mod.rf, h⟩
    · have h := h.2 (hc)
      refine sv_iload_n hM dX12_isJump_12 rfl rfl ?_
      refine sv_bipush (d := (27 : Int)) hM dX12_isJump_13 rfl rfl ?_
      refine sv_icmp_eq hM dX12_isJump_15 hp0 (⟨by decide, by decide⟩ : sv_R (27 : Int)) (t := 24) rfl rfl (fun hc => ?_) (fun hc => ?_)
      · have h := h.1 (hc)
        refine sv_iconst (d := (1 : Int)) hM dX12_isJump_24 rfl rfl ?_
        refine sv_goto hM dX12_isJump_25 (pc' := 29) rfl ?_
        exact sv_iret hM dX12_isJump_29 rfl (sv_nz (⟨by decide, by decide⟩ : 0 ≤ (1 : Int) ∧ (1 : Int) ≤ 1)) ⟨(1 : Int), rfl, sv_R01 (⟨by decide, by decide⟩ : 0 ≤ (1 : Int) ∧ (1 : Int) ≤ 1), hok, sv_mod.rf, h⟩
      · have h := h.2 (hc)
        refine sv_iload_n hM dX12_isJump_18 rfl rfl ?_
        refine sv_bipush (d := (30 : Int)) hM dX12_isJump_19 rfl rfl ?_
        refine sv_icmp_ne hM dX12_isJump_21 hp0 (⟨by decide, by decide⟩ : sv_R (30 : Int)) (t := 28) rfl rfl (fun hc => ?_) (fun hc => ?_)
        · have h := h.1 (hc)
          refine sv_iconst (d := (0 : Int)) hM dX12_isJump_28 rfl rfl ?_
          exact sv_iret hM dX12_isJump_29 rfl (sv_nz (⟨by decide, by decide⟩ : 0 ≤ (0 : Int) ∧ (0 : Int) ≤ 1)) ⟨(0 : Int), rfl, sv_R01 (⟨by decide, by decide⟩ : 0 ≤ (0 : Int) ∧ (0 : Int) ≤ 1), hok, sv_mod.rf, h⟩
        · have h := h.2 (hc)
          refine sv_iconst (d := (1 : Int)) hM dX12_isJump_24 rfl rfl ?_
          refine sv_goto hM dX12_isJump_25 (pc' := 29) rfl ?_
          exact sv_iret hM dX12_isJump_29 rfl (sv_nz (⟨by decide, by decide⟩ : 0 ≤ (1 : Int) ∧ (1 : Int) ≤ 1)) ⟨(1 : Int), rfl, sv_R01 (⟨by decide, by decide⟩ : 0 ≤ (1 : Int) ∧ (1 : Int) ≤ 1), hok, sv_mod.rf, h⟩
