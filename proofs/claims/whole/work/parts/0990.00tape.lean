theorem dX12_thrown_0 : decode cX12_thrown 0 = .ok (.aload_n 0, 1) := by decide +kernel
theorem dX12_thrown_1 : decode cX12_thrown 1 = .ok (.getfield 289, 3) := by decide +kernel
theorem dX12_thrown_4 : decode cX12_thrown 4 = .ok (.ireturn, 1) := by decide +kernel
theorem dX12_in_0 : decode cX12_in 0 = .ok (.iload_n 0, 1) := by decide +kernel
theorem dX12_in_1 : decode cX12_in 1 = .ok (.iload_n 1, 1) := by decide +kernel
theorem dX12_in_2 : decode cX12_in 2 = .ok (.if_icmp .lt 12, 3) := by decide +kernel
theorem dX12_in_5 : decode cX12_in 5 = .ok (.iload_n 0, 1) := by decide +kernel
theorem dX12_in_6 : decode cX12_in 6 = .ok (.iload_n 2, 1) := by decide +kernel
theorem dX12_in_7 : decode cX12_in 7 = .ok (.if_icmp .gt 7, 3) := by decide +kernel
theorem dX12_in_10 : decode cX12_in 10 = .ok (.iconst 1, 1) := by decide +kernel
theorem dX12_in_11 : decode cX12_in 11 = .ok (.goto 4, 3) := by decide +kernel
theorem dX12_in_14 : decode cX12_in 14 = .ok (.iconst 0, 1) := by decide +kernel
theorem dX12_in_15 : decode cX12_in 15 = .ok (.ireturn, 1) := by decide +kernel

def q_thrown (S : sv_S) : Option Value → sv_S → Prop := fun v S' => v = some (sv_I ((S 1000 0))) ∧ S' = S
set_option maxHeartbeats 2000000 in
theorem f_thrown : ∀ (S : sv_S), sm_ok S → (sv_R (S 1000 0) → (S 1000 0) = ((S 1000 0))) := by
  intro S hok
  repeat' (first | (refine And.intro ?_ ?_) | (intro _))
  all_goals first | assumption | omega | grind
set_option maxRecDepth 8000 in
set_option maxHeartbeats 2000000 in
theorem t_thrown : ∀ (S : sv_S), sm_ok S → sv_T sm_XS sm_cs sm_L sm_sh 0 (q_thrown S) 1 0 (lv_args 0 [.ref 0]) [] S := by
  intro S hok
  have h := f_thrown S hok
  have hM := sm_h1
  show sv_T sm_XS sm_cs sm_L sm_sh 0 (q_thrown S) 1 0 [(0, .ref 0)] [] S
  refine sv_aload_n hM dX12_thrown_0 rfl rfl ?_
  have k1 : sv_R (S 1000 0) := sm_okI hok sm_r1000 0
  have h := h k1
  refine sv_getI hM dX12_thrown_1 sm_fl_289 (sm_a0 _) sm_k0 rfl (x := (S 1000 0)) rfl ?_
  exact sv_iret hM dX12_thrown_4 rfl rfl ⟨congrArg (fun z => some (sv_I z)) h, rfl⟩
def q_in (p0 : Int) (p1 : Int) (p2 : Int) (S : sv_S) : Option Value → sv_S → Prop := fun v S' => v = some (sv_I (if p1 ≤ p0 ∧ p0 ≤ p2 then 1 else 0)) ∧ S' = S
set_option maxHeartbeats 2000000 in
theorem f_in : ∀ (p0 : Int) (p1 : Int) (p2 : Int) (S : sv_S), sm_ok S → sv_R p0 → sv_R p1 → sv_R p2 → (((p0 < p1) → (0 : Int) = (if p1 ≤ p0 ∧ p0 ≤ p2 then 1 else 0)) ∧ ((¬ (p0 < p1)) → (((p2 < p0) → (0 : Int) = (if p1 ≤ p0 ∧ p0 ≤ p2 then 1 else 0)) ∧ ((¬ (p2 < p0)) → (1 : Int) = (if p1 ≤ p0 ∧ p0 ≤ p2 then 1 else 0))))) := by
  intro p0 p1 p2 S hok hp0 hp1 hp2
  repeat' (first | (refine And.intro ?_ ?_) | (intro _))
  all_goals first | assumption | omega | grind
set_option maxRecDepth 8000 in
set_option maxHeartbeats 2000000 in
theorem t_in : ∀ (p0 : Int) (p1 : Int) (p2 : Int) (S : sv_S), sm_ok S → sv_R p0 → sv_R p1 → sv_R p2 → sv_T sm_XS sm_cs sm_L sm_sh 0 (q_in p0 p1 p2 S) 4 0 (lv_args 0 [sv_I p0, sv_I p1, sv_I p2]) [] S := by
  intro p0 p1 p2 S hok hp0 hp1 hp2
  have h := f_in p0 p1 p2 S hok hp0 hp1 hp2
  have hM := sm_h4
  show sv_T sm_XS sm_cs sm_L sm_sh 0 (q_in p0 p1 p2 S) 4 0 [(0, sv_I p0), (1, sv_I p1), (2, sv_I p2)] [] S
  refine sv_iload_n hM dX12_in_0 rfl rfl ?_
  refine sv_iload_n hM dX12_in_1 rfl rfl ?_
  refine sv_icmp_lt hM dX12_in_2 hp0 hp1 (t := 14) rfl rfl (fun hc => ?_) (fun hc => ?_)
  · have h := h.1 (hc)
    refine sv_iconst (d := (0 : Int)) hM dX12_in_14 rfl rfl ?_
    exact sv_iret hM dX12_in_15 rfl (sv_nz (⟨by decide, by decide⟩ : 0 ≤ (0 : Int) ∧ (0 : Int) ≤ 1)) ⟨congrArg (fun z => some (sv_I z)) h, rfl⟩
  · have h := h.2 (hc)
    refine sv_iload_n hM dX12_in_5 rfl rfl ?_
    refine sv_iload_n hM dX12_in_6 rfl rfl ?_
    refine sv_icmp_gt hM dX12_in_7 hp0 hp2 (t := 14) rfl rfl (fun hc => ?_) (fun hc => ?_)
    · have h := h.1 (hc)
      refine sv_iconst (d := (0 : Int)) hM dX12_in_14 rfl rfl ?_
      exact sv_iret hM dX12_in_15 rfl (sv_nz (⟨by decide, by decide⟩ : 0 ≤ (0 : Int) ∧ (0 : Int) ≤ 1)) ⟨congrArg (fun z => some (sv_I z)) h, rfl⟩
    · have h := h.2 (hc)
      refine sv_iconst (d := (1 : Int)) hM dX12_in_10 rfl rfl ?_
      refine sv_goto hM dX12_in_11 (pc' := 15) rfl ?_
      exact sv_iret hM dX12_in_15 rfl (sv_nz (⟨by decide, by decide⟩ : 0 ≤ (1 : Int) ∧ (1 : Int) ≤ 1)) ⟨congrArg (fun z => some (sv_I z)) h, rfl⟩
def q_feed (p1 : Int) (p2 : Int) (p3 : Int) (p4 : Int) (p5 : Int) (S : sv_S) : Option Value → sv_S → Prop := fun v S' => ∃ r : Int, v = some (sv_I r) ∧ sv_R r ∧ sm_ok S' ∧ sv_mod [1000, 1002, 1] S S' ∧ (0 ≤ (S' 1002 0) ∧ (S' 1002 0) ≤ 4000 ∧ ((S 1002 0) + 20 > 4000 → r = -1 ∧ (S' 1002 0) = (S 1002 0)) ∧ ((S 1002 0) + 20 ≤ 4000 → r = (S 1002 0) + 20 ∧ (S' 1002 0) = r))
set_option maxHeartbeats 2000000 in
theorem f_feed : ∀ (p1 : Int) (p2 : Int) (p3 : Int) (p4 : Int) (p5 : Int) (S : sv_S), sm_ok S → sv_R p1 → sv_R p2 → sv_R p3 → sv_R p4 → sv_R p5 → (0 ≤ (S 1002 0) ∧ (S 1002 0) ≤ 4000) → (sv_R (S 1002 0) → (sv_R ((S 1002 0) + (20 : Int))) ∧ (((((S 1002 0) + (20 : Int)) ≤ (4000 : Int)) → ((0 ≤ (0 : Int) ∧ (0 : Int) ≤ 20 ∧ (S 1002 0) + 20 ≤ 4000) ∧ (∀ l6_6 : Int, sv_R l6_6 → ∀ g5 : sv_S, (0 ≤ l6_6 ∧ l6_6 ≤ 20 ∧ (S 1002 0) + 20 ≤ 4000) → (0 ≤ 20 - l6_6) ∧ ((((20 : Int) ≤ l6_6) → (0 ≤ ((S 1002 0) + (20 : Int)) ∧ ((S 1002 0) + (20 : Int)) ≤ 4000 ∧ ((S 1002 0) + 20 > 4000 → ((S 1002 0) + (20 : Int)) = -1 ∧ ((S 1002 0) + (20 : Int)) = (S 1002 0)) ∧ ((S 1002 0) + 20 ≤ 4000 → ((S 1002 0) + (20 : Int)) = (S 1002 0) + 20 ∧ ((S 1002 0) + (20 : Int)) = ((S 1002 0) + (20 : Int))))) ∧ ((¬ ((20 : Int) ≤ l6_6)) → ((((4 : Int) ≤ l6_6) → ((((8 : Int) ≤ l6_6) → ((((12 : Int) ≤ l6_6) → ((((16 : Int) ≤ l6_6) → (0 ≤ l6_6 ∧ l6_6 ≤ 2147483647) ∧ (0 < (4 : Int) ∧ (4 : Int) ≤ 2147483647) ∧ (∀ r16 : Int, sv_R r16 → (∀ r17 : Int, (-128 ≤ r17 ∧ r17 ≤ 127) → (-128 ≤ r16 → r16 ≤ 127 → r17 = r16) → (0 ≤ ((S 1002 0) + l6_6) ∧ ((S 1002 0) + l6_6) < 4000) ∧ (sv_R (l6_6 + (1 : Int))) ∧ ((0 ≤ (l6_6 + (1 : Int)) ∧ (l6_6 + (1 : Int)) ≤ 20 ∧ (S 1002 0) + 20 ≤ 4000) ∧ (20 - (l6_6 + (1 : Int))) < (20 - l6_6))))) ∧ ((¬ ((16 : Int) ≤ l6_6)) → (0 ≤ l6_6 ∧ l6_6 ≤ 2147483647) ∧ (0 < (4 : Int) ∧ (4 : Int) ≤ 2147483647) ∧ (∀ r25 : Int, sv_R r25 → (∀ r26 : Int, (-128 ≤ r26 ∧ r26 ≤ 127) → (-128 ≤ r25 → r25 ≤ 127 → r26 = r25) → (0 ≤ ((S 1002 0) + l6_6) ∧ ((S 1002 0) + l6_6) < 4000) ∧ (sv_R (l6_6 + (1 : Int))) ∧ ((0 ≤ (l6_6 + (1 : Int)) ∧ (l6_6 + (1 : Int)) ≤ 20 ∧ (S 1002 0) + 20 ≤ 4000) ∧ (20 - (l6_6 + (1 : Int))) < (20 - l6_6))))))) ∧ ((¬ ((12 : Int) ≤ l6_6)) → (0 ≤ l6_6 ∧ l6_6 ≤ 2147483647) ∧ (0 < (4 : Int) ∧ (4 : Int) ≤ 2147483647) ∧ (∀ r34 : Int, sv_R r34 → (∀ r35 : Int, (-128 ≤ r35 ∧ r35 ≤ 127) → (-128 ≤ r34 → r34 ≤ 127 → r35 = r34) → (0 ≤ ((S 1002 0) + l6_6) ∧ ((S 1002 0) + l6_6) < 4000) ∧ (sv_R (l6_6 + (1 : Int))) ∧ ((0 ≤ (l6_6 + (1 : Int)) ∧ (l6_6 + (1 : Int)) ≤ 20 ∧ (S 1002 0) + 20 ≤ 4000) ∧ (20 - (l6_6 + (1 : Int))) < (20 - l6_6))))))) ∧ ((¬ ((8 : Int) ≤ l6_6)) → (0 ≤ l6_6 ∧ l6_6 ≤ 2147483647) ∧ (0 < (4 : Int) ∧ (4 : Int) ≤ 2147483647) ∧ (∀ r43 : Int, sv_R r43 → (∀ r44 : Int, (-128 ≤ r44 ∧ r44 ≤ 127) → (-128 ≤ r43 → r43 ≤ 127 → r44 = r43) → (0 ≤ ((S 1002 0) + l6_6) ∧ ((S 1002 0) + l6_6) < 4000) ∧ (sv_R (l6_6 + (1 : Int))) ∧ ((0 ≤ (l6_6 + (1 : Int)) ∧ (l6_6 + (1 : Int)) ≤ 20 ∧ (S 1002 0) + 20 ≤ 4000) ∧ (20 - (l6_6 + (1 : Int))) < (20 - l6_6))))))) ∧ ((¬ ((4 : Int) ≤ l6_6)) → (0 ≤ l6_6 ∧ l6_6 ≤ 2147483647) ∧ (0 < (4 : Int) ∧ (4 : Int) ≤ 2147483647) ∧ (∀ r52 : Int, sv_R r52 → (∀ r53 : Int, (-128 ≤ r53 ∧ r53 ≤ 127) → (-128 ≤ r52 → r52 ≤ 127 → r53 = r52) → (0 ≤ ((S 1002 0) + l6_6) ∧ ((S 1002 0) + l6_6) < 4000) ∧ (sv_R (l6_6 + (1 : Int))) ∧ ((0 ≤ (l6_6 + (1 : Int)) ∧ (l6_6 + (1 : Int)) ≤ 20 ∧ (S 1002 0) + 20 ≤ 4000) ∧ (20 - (l6_6 + (1 : Int))) < (20 - l6_6))))))))))) ∧ ((¬ (((S 1002 0) + (20 : Int)) ≤ (4000 : Int))) → (0 ≤ (S 1002 0) ∧ (S 1002 0) ≤ 4000 ∧ ((S 1002 0) + 20 > 4000 → (-1 : Int) = -1 ∧ (S 1002 0) = (S 1002 0)) ∧ ((S 1002 0) + 20 ≤ 4000 → (-1 : Int) = (S 1002 0) + 20 ∧ (S 1002 0) = (-1 : Int)))))) := by
  intro p1 p2 p3 p4 p5 S hok hp1 hp2 hp3 hp4 hp5 hpre
  repeat' (first | (refine And.intro ?_ ?_) | (intro _))
  all_goals first | assumption | omega | grind
set_option maxRecDepth 8000 in
set_option maxHeartbeats 2000000 in
theorem t_feed : ∀ (p1 : Int) (p2 : Int) (p3 : Int) (p4 : Int) (p5 : Int) (S : sv_S), sm_ok S → sv_R p1 → sv_R p2 → sv_R p3 → sv_R p4 → sv_R p5 → (0 ≤ (S 1002 0) ∧ (S 1002 0) ≤ 4000) → sv_T sm_XS sm_cs sm_L sm_sh 0 (q_feed p1 p2 p3 p4 p5 S) 2 0 (lv_args 0 [.ref 0, sv_I p1, sv_I p2, sv_I p3, sv_I p4, sv_I p5]) [] S := by
  intro p1 p2 p3 p4 p5 S hok hp1 hp2 hp3 hp4 hp5 hpre
  have h := f_feed p1 p2 p3 p4 p5 S hok hp1 hp2 hp3 hp4 hp5 hpre
  have hM := sm_h2
  show sv_T sm_XS sm_cs sm_L sm_sh 0 (q_feed p1 p2 p3 p4 p5 S) 2 0 [(0, .ref 0), (1, sv_I p1), (2, sv_I p2), (3, sv_I p3), (4, sv_I p4), (5, sv_I p5)] [] S
  refine sv_aload_n hM dX12_feed_0 rfl rfl ?_
  refine sv_iconst (d := (0 : Int)) hM dX12_feed_1 rfl rfl ?_
  refine sv_putI sm_X hM dX12_feed_2 sm_fp_289 (sm_a0 _) sm_q0 (Or.inl rfl) rfl rfl rfl rfl ?_
  have ok1 : sm_ok (sv_up S 1000 0 (0 : Int)) := sm_upI hok sm_r1000 (⟨by decide, by decide⟩ : sv_R (0 : Int))
  have md2 : sv_mod [1000, 1002, 1] S (sv_up S 1000 0 (0 : Int)) := sv_mod.up sv_mod.rf (by decide)
  refine sv_aload_n hM dX12_feed_5 rfl rfl ?_
  have k3 : sv_R (S 1002 0) := sm_okI ok1 sm_r1002 0
  have h := h k3
  refine sv_getI hM dX12_feed_6 sm_fl_293 (sm_a0 _) sm_k2 rfl (x := (S 1002 0)) rfl ?_
  refine sv_bipush (d := (20 : Int)) hM dX12_feed_9 rfl rfl ?_
  refine sv_iadd hM dX12_feed_11 rfl ?_
  refine sv_sipush (d := (4000 : Int)) hM dX12_feed_12 rfl rfl ?_
  obtain ⟨o4, h⟩ := h
  refine sv_icmp_le hM dX12_feed_15 o4 (⟨by decide, by decide⟩ : sv_R (4000 : Int)) (t := 20) rfl rfl (fun hc => ?_) (fun hc => ?_)
  · have h := h.1 (hc)
    refine sv_iconst (d := (0 : Int)) hM dX12_feed_20 rfl rfl ?_
    refine sv_istore hM dX12_feed_21 (by decide) rfl ?_
    show sv_T sm_XS sm_cs sm_L sm_sh 0 (q_feed p1 p2 p3 p4 p5 S) 2 23 [(0, .ref 0), (1, sv_I p1), (2, sv_I p2), (3, sv_I p3), (4, sv_I p4), (5, sv_I p5), (6, sv_I (0 : Int))] [] (sv_up S 1000 0 (0 : Int))
    obtain ⟨hin8, h⟩ := h
    have hJ : ∀ a : Int × sv_S, (sv_R a.1 ∧ sm_ok (sv_sts (sv_up S 1000 0 (0 : Int)) [1] a.2) ∧ (0 ≤ a.1 ∧ a.1 ≤ 20 ∧ (S 1002 0) + 20 ≤ 4000)) → sv_T sm_XS sm_cs sm_L sm_sh 0 (q_feed p1 p2 p3 p4 p5 S) 2 23 [(0, .ref 0), (1, sv_I p1), (2, sv_I p2), (3, sv_I p3), (4, sv_I p4), (5, sv_I p5), (6, sv_I a.1)] [] (sv_sts (sv_up S 1000 0 (0 : Int)) [1] a.2) := by
      refine sv_loop (α := Int × sv_S) (fun a => sv_R a.1 ∧ sm_ok (sv_sts (sv_up S 1000 0 (0 : Int)) [1] a.2) ∧ (0 ≤ a.1 ∧ a.1 ≤ 20 ∧ (S 1002 0) + 20 ≤ 4000)) (fun a => 20 - a.1) (fun a => sv_T sm_XS sm_cs sm_L sm_sh 0 (q_feed p1 p2 p3 p4 p5 S) 2 23 [(0, .ref 0), (1, sv_I p1), (2, sv_I p2), (3, sv_I p3), (4, sv_I p4), (5, sv_I p5), (6, sv_I a.1)] [] (sv_sts (sv_up S 1000 0 (0 : Int)) [1] a.2)) (fun a q => (h a.1 q.1 a.2 q.2.2).1) (fun a q ih7 => ?_)
      obtain ⟨l6_6, g5⟩ := a
      obtain ⟨hl6_6, ok9, hin8i⟩ := q
      have h := (h l6_6 hl6_6 g5 hin8i).2
      show sv_T sm_XS sm_cs sm_L sm_sh 0 (q_feed p1 p2 p3 p4 p5 S) 2 23 [(0, .ref 0), (1, sv_I p1), (2, sv_I p2), (3, sv_I p3), (4, sv_I p4), (5, sv_I p5), (6, sv_I l6_6)] [] (sv_sts (sv_up S 1000 0 (0 : Int)) [1] g5)
      have md10 : sv_mod [1000, 1002, 1] S (sv_sts (sv_up S 1000 0 (0 : Int)) [1] g5) := sv_mod.sts md2 (by decide)
      have md11 : sv_mod [1] (sv_up S 1000 0 (0 : Int)) (sv_sts (sv_up S 1000 0 (0 : Int)) [1] g5) := sv_mod.sts sv_mod.rf (by decide)
      refine sv_iload hM dX12_feed_23 rfl rfl ?_
      refine sv_bipush (d := (20 : Int)) hM dX12_feed_25 rfl rfl ?_
      refine sv_icmp_ge hM dX12_feed_27 hl6_6 (⟨by decide, by decide⟩ : sv_R (20 : Int)) (t := 110) rfl rfl (fun hc => ?_) (fun hc => ?_)
      · have h := h.1 (hc)
        refine sv_aload_n hM dX12_feed_110 rfl rfl ?_
        refine sv_dupA hM dX12_feed_111 rfl ?_
        refine sv_getI hM dX12_feed_112 sm_fl_293 (sm_a0 _) sm_k2 rfl (x := (S 1002 0)) rfl ?_
        refine sv_bipush (d := (20 : Int)) hM dX12_feed_115 rfl rfl ?_
        refine sv_iadd hM dX12_feed_117 rfl ?_
        refine sv_putI sm_X hM dX12_feed_118 sm_fp_293 (sm_a0 _) sm_q2 (Or.inl rfl) rfl rfl rfl rfl ?_
        have ok12 : sm_ok (sv_up (sv_sts (sv_up S 1000 0 (0 : Int)) [1] g5) 1002 0 ((S 1002 0) + (20 : Int))) := sm_upI ok9 sm_r1002 o4
        have md13 : sv_mod [1000, 1002, 1] S (sv_up (sv_sts (sv_up S 1000 0 (0 : Int)) [1] g5) 1002 0 ((S 1002 0) + (20 : Int))) := sv_mod.up md10 (by decide)
        refine sv_aload_n hM dX12_feed_121 rfl rfl ?_
        refine sv_getI hM dX12_feed_122 sm_fl_293 (sm_a0 _) sm_k2 rfl (x := ((S 1002 0) + (20 : Int))) rfl ?_
        exact sv_iret hM dX12_feed_125 rfl rfl ⟨((S 1002 0) + (20 : Int)), rfl, o4, ok12, md13, h⟩
      · have h := h.2 (hc)
        refine sv_iload hM dX12_feed_30 rfl rfl ?_
        refine sv_iconst (d := (4 : Int)) hM dX12_feed_32 rfl rfl ?_
        refine sv_icmp_ge hM dX12_feed_33 hl6_6 (⟨by decide, by decide⟩ : sv_R (4 : Int)) (t := 40) rfl rfl (fun hc => ?_) (fun hc => ?_)
        · have h := h.1 (hc)
          refine sv_iload hM dX12_feed_40 rfl rfl ?_
          refine sv_bipush (d := (8 : Int)) hM dX12_feed_42 rfl rfl ?_
          refine sv_icmp_ge hM dX12_feed_44 hl6_6 (⟨by decide, by decide⟩ : sv_R (8 : Int)) (t := 51) rfl rfl (fun hc => ?_) (fun hc => ?_)
          · have h := h.1 (hc)
            refine sv_iload hM dX12_feed_51 rfl rfl ?_
            refine sv_bipush (d := (12 : Int)) hM dX12_feed_53 rfl rfl ?_
            refine sv_icmp_ge hM dX12_feed_55 hl6_6 (⟨by decide, by decide⟩ : sv_R (12 : Int)) (t := 62) rfl rfl (fun hc => ?_) (fun hc => ?_)
            · have h := h.1 (hc)
              refine sv_iload hM dX12_feed_62 rfl rfl ?_
              refine sv_bipush (d := (16 : Int)) hM dX12_feed_64 rfl rfl ?_
              refine sv_icmp_ge hM dX12_feed_66 hl6_6 (⟨by decide, by decide⟩ : sv_R (16 : Int)) (t := 74) rfl rfl (fun hc => ?_) (fun hc => ?_)
              · have h := h.1 (hc)
                refine sv_iload hM dX12_feed_74 rfl rfl ?_
                refine sv_istore hM dX12_feed_76 (by decide) rfl ?_
                show sv_T sm_XS sm_cs sm_L sm_sh 0 (q_feed p1 p2 p3 p4 p5 S) 2 78 [(0, .ref 0), (1, sv_I p1), (2, sv_I p2), (3, sv_I p3), (4, sv_I p4), (5, sv_I p5), (6, sv_I l6_6), (7, sv_I p5)] [] (sv_sts (sv_up S 1000 0 (0 : Int)) [1] g5)
                refine sv_aload_n hM dX12_feed_78 rfl rfl ?_
                refine sv_getA hM dX12_feed_79 sm_fl_7 (sm_a0 _) sm_k1 rfl ?_
                refine sv_aload_n hM dX12_feed_82 rfl rfl ?_
                refine sv_getI hM dX12_feed_83 sm_fl_293 (sm_a0 _) sm_k2 rfl (x := (S 1002 0)) rfl ?_
                refine sv_iload hM dX12_feed_86 rfl rfl ?_
                refine sv_iadd hM dX12_feed_88 rfl ?_
                refine sv_iload hM dX12_feed_89 rfl rfl ?_
                refine sv_bipush (d := (24 : Int)) hM dX12_feed_91 rfl rfl ?_
                refine sv_bipush (d := (8 : Int)) hM dX12_feed_93 rfl rfl ?_
                refine sv_iload hM dX12_feed_95 rfl rfl ?_
                refine sv_iconst (d := (4 : Int)) hM dX12_feed_97 rfl rfl ?_
                obtain ⟨o14, h⟩ := h
                obtain ⟨o15, h⟩ := h
                refine sv_irem hM dX12_feed_98 o14 o15 rfl ?_
                refine sv_imul hM dX12_feed_99 rfl ?_
                refine sv_isub hM dX12_feed_100 rfl ?_
                refine sv_anyI hM dX12_feed_101 rfl rfl (fun r16 hr16 _ => ?_)
                have h := h r16 hr16
                refine sv_i2b hM dX12_feed_102 rfl (fun r17 hr17 er17 => ?_)
                have h := h r17 hr17 er17
                obtain ⟨o18, h⟩ := h
                refine sv_bast sm_X hM dX12_feed_103 (sm_a1 _) (by decide) o18.1 o18.2 (sv_nnB hr17) rfl ?_
                have ok19 : sm_ok (sv_up (sv_sts (sv_up S 1000 0 (0 : Int)) [1] g5) 1 ((S 1002 0) + l6_6) r17) := sm_upB ok9 sm_r1 hr17
                have md20 : sv_mod [1000, 1002, 1] S (sv_up (sv_sts (sv_up S 1000 0 (0 : Int)) [1] g5) 1 ((S 1002 0) + l6_6) r17) := sv_mod.up md10 (by decide)
                have md21 : sv_mod [1] (sv_up S 1000 0 (0 : Int)) (sv_up (sv_sts (sv_up S 1000 0 (0 : Int)) [1] g5) 1 ((S 1002 0) + l6_6) r17) := sv_mod.up md11 (by decide)
                refine sv_iinc (d := (1 : Int)) hM dX12_feed_104 rfl (by decide) rfl rfl ?_
                show sv_T sm_XS sm_cs sm_L sm_sh 0 (q_feed p1 p2 p3 p4 p5 S) 2 107 [(0, .ref 0), (1, sv_I p1), (2, sv_I p2), (3, sv_I p3), (4, sv_I p4), (5, sv_I p5), (6, sv_I (l6_6 + (1 : Int))), (7, sv_I p5)] [] (sv_up (sv_sts (sv_up S 1000 0 (0 : Int)) [1] g5) 1 ((S 1002 0) + l6_6) r17)
                refine sv_goto hM dX12_feed_107 (pc' := 23) rfl ?_
                obtain ⟨o22, h⟩ := h
                have eS := sv_mod.eq md21
                have hb := ih7 ((l6_6 + (1 : Int)), (sv_up (sv_sts (sv_up S 1000 0 (0 : Int)) [1] g5) 1 ((S 1002 0) + l6_6) r17)) ⟨o22, (by rw [← eS]; exact ok19), h.1⟩ h.2
                have hb : sv_T sm_XS sm_cs sm_L sm_sh 0 (q_feed p1 p2 p3 p4 p5 S) 2 23 [(0, .ref 0), (1, sv_I p1), (2, sv_I p2), (3, sv_I p3), (4, sv_I p4), (5, sv_I p5), (6, sv_I (l6_6 + (1 : Int)))] [] (sv_up (sv_sts (sv_up S 1000 0 (0 : Int)) [1] g5) 1 ((S 1002 0) + l6_6) r17) := Eq.mpr (congrArg (fun Z => sv_T sm_XS sm_cs sm_L sm_sh 0 (q_feed p1 p2 p3 p4 p5 S) 2 23 [(0, .ref 0), (1, sv_I p1), (2, sv_I p2), (3, sv_I p3), (4, sv_I p4), (5, sv_I p5), (6, sv_I (l6_6 + (1 : Int)))] [] Z) eS) hb
                exact sv_less (lv := [(0, .ref 0), (1, sv_I p1), (2, sv_I p2), (3, sv_I p3), (4, sv_I p4), (5, sv_I p5), (6, sv_I (l6_6 + (1 : Int)))]) (sv_Sub_cons rfl (sv_Sub_cons rfl (sv_Sub_cons rfl (sv_Sub_cons rfl (sv_Sub_cons rfl (sv_Sub_cons rfl (sv_Sub_cons rfl sv_Sub_nil))))))) hb
              · have h := h.2 (hc)
                refine sv_iload hM dX12_feed_69 rfl rfl ?_
                refine sv_goto hM dX12_feed_71 (pc' := 76) rfl ?_
                refine sv_istore hM dX12_feed_76 (by decide) rfl ?_
                show sv_T sm_XS sm_cs sm_L sm_sh 0 (q_feed p1 p2 p3 p4 p5 S) 2 78 [(0, .ref 0), (1, sv_I p1), (2, sv_I p2), (3, sv_I p3), (4, sv_I p4), (5, sv_I p5), (6, sv_I l6_6), (7, sv_I p4)] [] (sv_sts (sv_up S 1000 0 (0 : Int)) [1] g5)
                refine sv_aload_n hM dX12_feed_78 rfl rfl ?_
                refine sv_getA hM dX12_feed_79 sm_fl_7 (sm_a0 _) sm_k1 rfl ?_
                refine sv_aload_n hM dX12_feed_82 rfl rfl ?_
                refine sv_getI hM dX12_feed_83 sm_fl_293 (sm_a0 _) sm_k2 rfl (x := (S 1002 0)) rfl ?_
                refine sv_iload hM dX12_feed_86 rfl rfl ?_
                refine sv_iadd hM dX12_feed_88 rfl ?_
                refine sv_iload hM dX12_feed_89 rfl rfl ?_
                refine sv_bipush (d := (24 : Int)) hM dX12_feed_91 rfl rfl ?_
                refine sv_bipush (d := (8 : Int)) hM dX12_feed_93 rfl rfl ?_
                refine sv_iload hM dX12_feed_95 rfl rfl ?_
                refine sv_iconst (d := (4 : Int)) hM dX12_feed_97 rfl rfl ?_
                obtain ⟨o23, h⟩ := h
                obtain ⟨o24, h⟩ := h
                refine sv_irem hM dX12_feed_98 o23 o24 rfl ?_
                refine sv_imul hM dX12_feed_99 rfl ?_
                refine sv_isub hM dX12_feed_100 rfl ?_
                refine sv_anyI hM dX12_feed_101 rfl rfl (fun r25 hr25 _ => ?_)
                have h := h r25 hr25
                refine sv_i2b hM dX12_feed_102 rfl (fun r26 hr26 er26 => ?_)
                have h := h r26 hr26 er26
                obtain ⟨o27, h⟩ := h
                refine sv_bast sm_X hM dX12_feed_103 (sm_a1 _) (by decide) o27.1 o27.2 (sv_nnB hr26) rfl ?_
                have ok28 : sm_ok (sv_up (sv_sts (sv_up S 1000 0 (0 : Int)) [1] g5) 1 ((S 1002 0) + l6_6) r26) := sm_upB ok9 sm_r1 hr26
                have md29 : sv_mod [1000, 1002, 1] S (sv_up (sv_sts (sv_up S 1000 0 (0 : Int)) [1] g5) 1 ((S 1002 0) + l6_6) r26) := sv_mod.up md10 (by decide)
                have md30 : sv_mod [1] (sv_up S 1000 0 (0 : Int)) (sv_up (sv_sts (sv_up S 1000 0 (0 : Int)) [1] g5) 1 ((S 1002 0) + l6_6) r26) := sv_mod.up md11 (by decide)
                refine sv_iinc (d := (1 : Int)) hM dX12_feed_104 rfl (by decide) rfl rfl ?_
                show sv_T sm_XS sm_cs sm_L sm_sh 0 (q_feed p1 p2 p3 p4 p5 S) 2 107 [(0, .ref 0), (1, sv_I p1), (2, sv_I p2), (3, sv_I p3), (4, sv_I p4), (5, sv_I p5), (6, sv_I (l6_6 + (1 : Int))), (7, sv_I p4)] [] (sv_up (sv_sts (sv_up S 1000 0 (0 : Int)) [1] g5) 1 ((S 1002 0) + l6_6) r26)
                refine sv_goto hM dX12_feed_107 (pc' := 23) rfl ?_
                obtain ⟨o31, h⟩ := h
                have eS := sv_mod.eq md30
                have hb := ih7 ((l6_6 + (1 : Int)), (sv_up (sv_sts (sv_up S 1000 0 (0 : Int)) [1] g5) 1 ((S 1002 0) + l6_6) r26)) ⟨o31, (by rw [← eS]; exact ok28), h.1⟩ h.2
                have hb : sv_T sm_XS sm_cs sm_L sm_sh 0 (q_feed p1 p2 p3 p4 p5 S) 2 23 [(0, .ref 0), (1, sv_I p1), (2, sv_I p2), (3, sv_I p3), (4, sv_I p4), (5, sv_I p5), (6, sv_I (l6_6 + (1 : Int)))] [] (sv_up (sv_sts (sv_up S 1000 0 (0 : Int)) [1] g5) 1 ((S 1002 0) + l6_6) r26) := Eq.mpr (congrArg (fun Z => sv_T sm_XS sm_cs sm_L sm_sh 0 (q_feed p1 p2 p3 p4 p5 S) 2 23 [(0, .ref 0), (1, sv_I p1), (2, sv_I p2), (3, sv_I p3), (4, sv_I p4), (5, sv_I p5), (6, sv_I (l6_6 + (1 : Int)))] [] Z) eS) hb
                exact sv_less (lv := [(0, .ref 0), (1, sv_I p1), (2, sv_I p2), (3, sv_I p3), (4, sv_I p4), (5, sv_I p5), (6, sv_I (l6_6 + (1 : Int)))]) (sv_Sub_cons rfl (sv_Sub_cons rfl (sv_Sub_cons rfl (sv_Sub_cons rfl (sv_Sub_cons rfl (sv_Sub_cons rfl (sv_Sub_cons rfl sv_Sub_nil))))))) hb
            · have h := h.2 (hc)
              refine sv_iload_n hM dX12_feed_58 rfl rfl ?_
              refine sv_goto hM dX12_feed_59 (pc' := 76) rfl ?_
              refine sv_istore hM dX12_feed_76 (by decide) rfl ?_
              show sv_T sm_XS sm_cs sm_L sm_sh 0 (q_feed p1 p2 p3 p4 p5 S) 2 78 [(0, .ref 0), (1, sv_I p1), (2, sv_I p2), (3, sv_I p3), (4, sv_I p4), (5, sv_I p5), (6, sv_I l6_6), (7, sv_I p3)] [] (sv_sts (sv_up S 1000 0 (0 : Int)) [1] g5)
              refine sv_aload_n hM dX12_feed_78 rfl rfl ?_
              refine sv_getA hM dX12_feed_79 sm_fl_7 (sm_a0 _) sm_k1 rfl ?_
              refine sv_aload_n hM dX12_feed_82 rfl rfl ?_
              refine sv_getI hM dX12_feed_83 sm_fl_293 (sm_a0 _) sm_k2 rfl (x := (S 1002 0)) rfl ?_
              refine sv_iload hM dX12_feed_86 rfl rfl ?_
              refine sv_iadd hM dX12_feed_88 rfl ?_
              refine sv_iload hM dX12_feed_89 rfl rfl ?_
              refine sv_bipush (d := (24 : Int)) hM dX12_feed_91 rfl rfl ?_
              refine sv_bipush (d := (8 : Int)) hM dX12_feed_93 rfl rfl ?_
              refine sv_iload hM dX12_feed_95 rfl rfl ?_
              refine sv_iconst (d := (4 : Int)) hM dX12_feed_97 rfl rfl ?_
              obtain ⟨o32, h⟩ := h
              obtain ⟨o33, h⟩ := h
              refine sv_irem hM dX12_feed_98 o32 o33 rfl ?_
              refine sv_imul hM dX12_feed_99 rfl ?_
              refine sv_isub hM dX12_feed_100 rfl ?_
              refine sv_anyI hM dX12_feed_101 rfl rfl (fun r34 hr34 _ => ?_)
              have h := h r34 hr34
              refine sv_i2b hM dX12_feed_102 rfl (fun r35 hr35 er35 => ?_)
              have h := h r35 hr35 er35
              obtain ⟨o36, h⟩ := h
              refine sv_bast sm_X hM dX12_feed_103 (sm_a1 _) (by decide) o36.1 o36.2 (sv_nnB hr35) rfl ?_
              have ok37 : sm_ok (sv_up (sv_sts (sv_up S 1000 0 (0 : Int)) [1] g5) 1 ((S 1002 0) + l6_6) r35) := sm_upB ok9 sm_r1 hr35
              have md38 : sv_mod [1000, 1002, 1] S (sv_up (sv_sts (sv_up S 1000 0 (0 : Int)) [1] g5) 1 ((S 1002 0) + l6_6) r35) := sv_mod.up md10 (by decide)
              have md39 : sv_mod [1] (sv_up S 1000 0 (0 : Int)) (sv_up (sv_sts (sv_up S 1000 0 (0 : Int)) [1] g5) 1 ((S 1002 0) + l6_6) r35) := sv_mod.up md11 (by decide)
              refine sv_iinc (d := (1 : Int)) hM dX12_feed_104 rfl (by decide) rfl rfl ?_
              show sv_T sm_XS sm_cs sm_L sm_sh 0 (q_feed p1 p2 p3 p4 p5 S) 2 107 [(0, .ref 0), (1, sv_I p1), (2, sv_I p2), (3, sv_I p3), (4, sv_I p4), (5, sv_I p5), (6, sv_I (l6_6 + (1 : Int))), (7, sv_I p3)] [] (sv_up (sv_sts (sv_up S 1000 0 (0 : Int)) [1] g5) 1 ((S 1002 0) + l6_6) r35)
              refine sv_goto hM dX12_feed_107 (pc' := 23) rfl ?_
              obtain ⟨o40, h⟩ := h
              have eS := sv_mod.eq md39
              have hb := ih7 ((l6_6 + (1 : Int)), (sv_up (sv_sts (sv_up S 1000 0 (0 : Int)) [1] g5) 1 ((S 1002 0) + l6_6) r35)) ⟨o40, (by rw [← eS]; exact ok37), h.1⟩ h.2
              have hb : sv_T sm_XS sm_cs sm_L sm_sh 0 (q_feed p1 p2 p3 p4 p5 S) 2 23 [(0, .ref 0), (1, sv_I p1), (2, sv_I p2), (3, sv_I p3), (4, sv_I p4), (5, sv_I p5), (6, sv_I (l6_6 + (1 : Int)))] [] (sv_up (sv_sts (sv_up S 1000 0 (0 : Int)) [1] g5) 1 ((S 1002 0) + l6_6) r35) := Eq.mpr (congrArg (fun Z => sv_T sm_XS sm_cs sm_L sm_sh 0 (q_feed p1 p2 p3 p4 p5 S) 2 23 [(0, .ref 0), (1, sv_I p1), (2, sv_I p2), (3, sv_I p3), (4, sv_I p4), (5, sv_I p5), (6, sv_I (l6_6 + (1 : Int)))] [] Z) eS) hb
              exact sv_less (lv := [(0, .ref 0), (1, sv_I p1), (2, sv_I p2), (3, sv_I p3), (4, sv_I p4), (5, sv_I p5), (6, sv_I (l6_6 + (1 : Int)))]) (sv_Sub_cons rfl (sv_Sub_cons rfl (sv_Sub_cons rfl (sv_Sub_cons rfl (sv_Sub_cons rfl (sv_Sub_cons rfl (sv_Sub_cons rfl sv_Sub_nil))))))) hb
          · have h := h.2 (hc)
            refine sv_iload_n hM dX12_feed_47 rfl rfl ?_
            refine sv_goto hM dX12_feed_48 (pc' := 76) rfl ?_
            refine sv_istore hM dX12_feed_76 (by decide) rfl ?_
            show sv_T sm_XS sm_cs sm_L sm_sh 0 (q_feed p1 p2 p3 p4 p5 S) 2 78 [(0, .ref 0), (1, sv_I p1), (2, sv_I p2), (3, sv_I p3), (4, sv_I p4), (5, sv_I p5), (6, sv_I l6_6), (7, sv_I p2)] [] (sv_sts (sv_up S 1000 0 (0 : Int)) [1] g5)
            refine sv_aload_n hM dX12_feed_78 rfl rfl ?_
            refine sv_getA hM dX12_feed_79 sm_fl_7 (sm_a0 _) sm_k1 rfl ?_
            refine sv_aload_n hM dX12_feed_82 rfl rfl ?_
            refine sv_getI hM dX12_feed_83 sm_fl_293 (sm_a0 _) sm_k2 rfl (x := (S 1002 0)) rfl ?_
            refine sv_iload hM dX12_feed_86 rfl rfl ?_
            refine sv_iadd hM dX12_feed_88 rfl ?_
            refine sv_iload hM dX12_feed_89 rfl rfl ?_
            refine sv_bipush (d := (24 : Int)) hM dX12_feed_91 rfl rfl ?_
            refine sv_bipush (d := (8 : Int)) hM dX12_feed_93 rfl rfl ?_
            refine sv_iload hM dX12_feed_95 rfl rfl ?_
            refine sv_iconst (d := (4 : Int)) hM dX12_feed_97 rfl rfl ?_
            obtain ⟨o41, h⟩ := h
            obtain ⟨o42, h⟩ := h
            refine sv_irem hM dX12_feed_98 o41 o42 rfl ?_
            refine sv_imul hM dX12_feed_99 rfl ?_
            refine sv_isub hM dX12_feed_100 rfl ?_
            refine sv_anyI hM dX12_feed_101 rfl rfl (fun r43 hr43 _ => ?_)
            have h := h r43 hr43
            refine sv_i2b hM dX12_feed_102 rfl (fun r44 hr44 er44 => ?_)
            have h := h r44 hr44 er44
            obtain ⟨o45, h⟩ := h
            refine sv_bast sm_X hM dX12_feed_103 (sm_a1 _) (by decide) o45.1 o45.2 (sv_nnB hr44) rfl ?_
            have ok46 : sm_ok (sv_up (sv_sts (sv_up S 1000 0 (0 : Int)) [1] g5) 1 ((S 1002 0) + l6_6) r44) := sm_upB ok9 sm_r1 hr44
            have md47 : sv_mod [1000, 1002, 1] S (sv_up (sv_sts (sv_up S 1000 0 (0 : Int)) [1] g5) 1 ((S 1002 0) + l6_6) r44) := sv_mod.up md10 (by decide)
            have md48 : sv_mod [1] (sv_up S 1000 0 (0 : Int)) (sv_up (sv_sts (sv_up S 1000 0 (0 : Int)) [1] g5) 1 ((S 1002 0) + l6_6) r44) := sv_mod.up md11 (by decide)
            refine sv_iinc (d := (1 : Int)) hM dX12_feed_104 rfl (by decide) rfl rfl ?_
            show sv_T sm_XS sm_cs sm_L sm_sh 0 (q_feed p1 p2 p3 p4 p5 S) 2 107 [(0, .ref 0), (1, sv_I p1), (2, sv_I p2), (3, sv_I p3), (4, sv_I p4), (5, sv_I p5), (6, sv_I (l6_6 + (1 : Int))), (7, sv_I p2)] [] (sv_up (sv_sts (sv_up S 1000 0 (0 : Int)) [1] g5) 1 ((S 1002 0) + l6_6) r44)
            refine sv_goto hM dX12_feed_107 (pc' := 23) rfl ?_
            obtain ⟨o49, h⟩ := h
            have eS := sv_mod.eq md48
            have hb := ih7 ((l6_6 + (1 : Int)), (sv_up (sv_sts (sv_up S 1000 0 (0 : Int)) [1] g5) 1 ((S 1002 0) + l6_6) r44)) ⟨o49, (by rw [← eS]; exact ok46), h.1⟩ h.2
            have hb : sv_T sm_XS sm_cs sm_L sm_sh 0 (q_feed p1 p2 p3 p4 p5 S) 2 23 [(0, .ref 0), (1, sv_I p1), (2, sv_I p2), (3, sv_I p3), (4, sv_I p4), (5, sv_I p5), (6, sv_I (l6_6 + (1 : Int)))] [] (sv_up (sv_sts (sv_up S 1000 0 (0 : Int)) [1] g5) 1 ((S 1002 0) + l6_6) r44) := Eq.mpr (congrArg (fun Z => sv_T sm_XS sm_cs sm_L sm_sh 0 (q_feed p1 p2 p3 p4 p5 S) 2 23 [(0, .ref 0), (1, sv_I p1), (2, sv_I p2), (3, sv_I p3), (4, sv_I p4), (5, sv_I p5), (6, sv_I (l6_6 + (1 : Int)))] [] Z) eS) hb
            exact sv_less (lv := [(0, .ref 0), (1, sv_I p1), (2, sv_I p2), (3, sv_I p3), (4, sv_I p4), (5, sv_I p5), (6, sv_I (l6_6 + (1 : Int)))]) (sv_Sub_cons rfl (sv_Sub_cons rfl (sv_Sub_cons rfl (sv_Sub_cons rfl (sv_Sub_cons rfl (sv_Sub_cons rfl (sv_Sub_cons rfl sv_Sub_nil))))))) hb
        · have h := h.2 (hc)
          refine sv_iload_n hM dX12_feed_36 rfl rfl ?_
          refine sv_goto hM dX12_feed_37 (pc' := 76) rfl ?_
          refine sv_istore hM dX12_feed_76 (by decide) rfl ?_
          show sv_T sm_XS sm_cs sm_L sm_sh 0 (q_feed p1 p2 p3 p4 p5 S) 2 78 [(0, .ref 0), (1, sv_I p1), (2, sv_I p2), (3, sv_I p3), (4, sv_I p4), (5, sv_I p5), (6, sv_I l6_6), (7, sv_I p1)] [] (sv_sts (sv_up S 1000 0 (0 : Int)) [1] g5)
          refine sv_aload_n hM dX12_feed_78 rfl rfl ?_
          refine sv_getA hM dX12_feed_79 sm_fl_7 (sm_a0 _) sm_k1 rfl ?_
          refine sv_aload_n hM dX12_feed_82 rfl rfl ?_
          refine sv_getI hM dX12_feed_83 sm_fl_293 (sm_a0 _) sm_k2 rfl (x := (S 1002 0)) rfl ?_
          refine sv_iload hM dX12_feed_86 rfl rfl ?_
          refine sv_iadd hM dX12_feed_88 rfl ?_
          refine sv_iload hM dX12_feed_89 rfl rfl ?_
          refine sv_bipush (d := (24 : Int)) hM dX12_feed_91 rfl rfl ?_
          refine sv_bipush (d := (8 : Int)) hM dX12_feed_93 rfl rfl ?_
          refine sv_iload hM dX12_feed_95 rfl rfl ?_
          refine sv_iconst (d := (4 : Int)) hM dX12_feed_97 rfl rfl ?_
          obtain ⟨o50, h⟩ := h
          obtain ⟨o51, h⟩ := h
          refine sv_irem hM dX12_feed_98 o50 o51 rfl ?_
          refine sv_imul hM dX12_feed_99 rfl ?_
          refine sv_isub hM dX12_feed_100 rfl ?_
          refine sv_anyI hM dX12_feed_101 rfl rfl (fun r52 hr52 _ => ?_)
          have h := h r52 hr52
          refine sv_i2b hM dX12_feed_102 rfl (fun r53 hr53 er53 => ?_)
          have h := h r53 hr53 er53
          obtain ⟨o54, h⟩ := h
          refine sv_bast sm_X hM dX12_feed_103 (sm_a1 _) (by decide) o54.1 o54.2 (sv_nnB hr53) rfl ?_
          have ok55 : sm_ok (sv_up (sv_sts (sv_up S 1000 0 (0 : Int)) [1] g5) 1 ((S 1002 0) + l6_6) r53) := sm_upB ok9 sm_r1 hr53
          have md56 : sv_mod [1000, 1002, 1] S (sv_up (sv_sts (sv_up S 1000 0 (0 : Int)) [1] g5) 1 ((S 1002 0) + l6_6) r53) := sv_mod.up md10 (by decide)
          have md57 : sv_mod [1] (sv_up S 1000 0 (0 : Int)) (sv_up (sv_sts (sv_up S 1000 0 (0 : Int)) [1] g5) 1 ((S 1002 0) + l6_6) r53) := sv_mod.up md11 (by decide)
          refine sv_iinc (d := (1 : Int)) hM dX12_feed_104 rfl (by decide) rfl rfl ?_
          show sv_T sm_XS sm_cs sm_L sm_sh 0 (q_feed p1 p2 p3 p4 p5 S) 2 107 [(0, .ref 0), (1, sv_I p1), (2, sv_I p2), (3, sv_I p3), (4, sv_I p4), (5, sv_I p5), (6, sv_I (l6_6 + (1 : Int))), (7, sv_I p1)] [] (sv_up (sv_sts (sv_up S 1000 0 (0 : Int)) [1] g5) 1 ((S 1002 0) + l6_6) r53)
          refine sv_goto hM dX12_feed_107 (pc' := 23) rfl ?_
          obtain ⟨o58, h⟩ := h
          have eS := sv_mod.eq md57
          have hb := ih7 ((l6_6 + (1 : Int)), (sv_up (sv_sts (sv_up S 1000 0 (0 : Int)) [1] g5) 1 ((S 1002 0) + l6_6) r53)) ⟨o58, (by rw [← eS]; exact ok55), h.1⟩ h.2
          have hb : sv_T sm_XS sm_cs sm_L sm_sh 0 (q_feed p1 p2 p3 p4 p5 S) 2 23 [(0, .ref 0), (1, sv_I p1), (2, sv_I p2), (3, sv_I p3), (4, sv_I p4), (5, sv_I p5), (6, sv_I (l6_6 + (1 : Int)))] [] (sv_up (sv_sts (sv_up S 1000 0 (0 : Int)) [1] g5) 1 ((S 1002 0) + l6_6) r53) := Eq.mpr (congrArg (fun Z => sv_T sm_XS sm_cs sm_L sm_sh 0 (q_feed p1 p2 p3 p4 p5 S) 2 23 [(0, .ref 0), (1, sv_I p1), (2, sv_I p2), (3, sv_I p3), (4, sv_I p4), (5, sv_I p5), (6, sv_I (l6_6 + (1 : Int)))] [] Z) eS) hb
          exact sv_less (lv := [(0, .ref 0), (1, sv_I p1), (2, sv_I p2), (3, sv_I p3), (4, sv_I p4), (5, sv_I p5), (6, sv_I (l6_6 + (1 : Int)))]) (sv_Sub_cons rfl (sv_Sub_cons rfl (sv_Sub_cons rfl (sv_Sub_cons rfl (sv_Sub_cons rfl (sv_Sub_cons rfl (sv_Sub_cons rfl sv_Sub_nil))))))) hb
    have eS := sv_mod.eq (sv_mod.rf (l := [1]) (S := (sv_up S 1000 0 (0 : Int))))
    have hb := hJ ((0 : Int), (sv_up S 1000 0 (0 : Int))) ⟨(⟨by decide, by decide⟩ : sv_R (0 : Int)), (by rw [← eS]; exact ok1), hin8⟩
    have hb : sv_T sm_XS sm_cs sm_L sm_sh 0 (q_feed p1 p2 p3 p4 p5 S) 2 23 [(0, .ref 0), (1, sv_I p1), (2, sv_I p2), (3, sv_I p3), (4, sv_I p4), (5, sv_I p5), (6, sv_I (0 : Int))] [] (sv_up S 1000 0 (0 : Int)) := Eq.mpr (congrArg (fun Z => sv_T sm_XS sm_cs sm_L sm_sh 0 (q_feed p1 p2 p3 p4 p5 S) 2 23 [(0, .ref 0), (1, sv_I p1), (2, sv_I p2), (3, sv_I p3), (4, sv_I p4), (5, sv_I p5), (6, sv_I (0 : Int))] [] Z) eS) hb
    exact hb
  · have h := h.2 (hc)
    refine sv_iconst (d := (-1 : Int)) hM dX12_feed_18 rfl rfl ?_
    exact sv_iret hM dX12_feed_19 rfl rfl ⟨(-1 : Int), rfl, (⟨by decide, by decide⟩ : sv_R (-1 : Int)), ok1, md2, h⟩
def q_back (p1 : Int) (S : sv_S) : Option Value → sv_S → Prop := fun v S' => ∃ r : Int, v = some (sv_I r) ∧ sv_R r ∧ sm_ok S' ∧ sv_mod [1000, 1002] S S' ∧ (0 ≤ (S' 1002 0) ∧ (S' 1002 0) ≤ 4000 ∧ ((p1 < 0 ∨ (S 1002 0) < p1) → r = -1 ∧ (S' 1002 0) = (S 1002 0)) ∧ (0 ≤ p1 → p1 ≤ (S 1002 0) → r = (S 1002 0) - p1 ∧ (S' 1002 0) = r))
set_option maxHeartbeats 2000000 in
theorem f_back : ∀ (p1 : Int) (S : sv_S), sm_ok S → sv_R p1 → (0 ≤ (S 1002 0) ∧ (S 1002 0) ≤ 4000) → (((p1 < (0 : Int)) → (0 ≤ (S 1002 0) ∧ (S 1002 0) ≤ 4000 ∧ ((p1 < 0 ∨ (S 1002 0) < p1) → (-1 : Int) = -1 ∧ (S 1002 0) = (S 1002 0)) ∧ (0 ≤ p1 → p1 ≤ (S 1002 0) → (-1 : Int) = (S 1002 0) - p1 ∧ (S 1002 0) = (-1 : Int)))) ∧ ((¬ (p1 < (0 : Int))) → (sv_R (S 1002 0) → (((p1 ≤ (S 1002 0)) → (sv_R ((S 1002 0) - p1)) ∧ (0 ≤ ((S 1002 0) - p1) ∧ ((S 1002 0) - p1) ≤ 4000 ∧ ((p1 < 0 ∨ (S 1002 0) < p1) → ((S 1002 0) - p1) = -1 ∧ ((S 1002 0) - p1) = (S 1002 0)) ∧ (0 ≤ p1 → p1 ≤ (S 1002 0) → ((S 1002 0) - p1) = (S 1002 0) - p1 ∧ ((S 1002 0) - p1) = ((S 1002 0) - p1)))) ∧ ((¬ (p1 ≤ (S 1002 0))) → (0 ≤ (S 1002 0) ∧ (S 1002 0) ≤ 4000 ∧ ((p1 < 0 ∨ (S 1002 0) < p1) → (-1 : Int) = -1 ∧ (S 1002 0) = (S 1002 0)) ∧ (0 ≤ p1 → p1 ≤ (S 1002 0) → (-1 : Int) = (S 1002 0) - p1 ∧ (S 1002 0) = (-1 : Int)))))))) := by
  intro p1 S hok hp1 hpre
  repeat' (first | (refine And.intro ?_ ?_) | (intro _))
  all_goals first | assumption | omega | grind
set_option maxRecDepth 8000 in
set_option maxHeartbeats 2000000 in
theorem t_back : ∀ (p1 : Int) (S : sv_S), sm_ok S → sv_R p1 → (0 ≤ (S 1002 0) ∧ (S 1002 0) ≤ 4000) → sv_T sm_XS sm_cs sm_L sm_sh 0 (q_back p1 S) 3 0 (lv_args 0 [.ref 0, sv_I p1]) [] S := by
  intro p1 S hok hp1 hpre
  have h := f_back p1 S hok hp1 hpre
  have hM := sm_h3
  show sv_T sm_XS sm_cs sm_L sm_sh 0 (q_back p1 S) 3 0 [(0, .ref 0), (1, sv_I p1)] [] S
  refine sv_aload_n hM dX12_back_0 rfl rfl ?_
  refine sv_iconst (d := (0 : Int)) hM dX12_back_1 rfl rfl ?_
  refine sv_putI sm_X hM dX12_back_2 sm_fp_289 (sm_a0 _) sm_q0 (Or.inl rfl) rfl rfl rfl rfl ?_
  have ok1 : sm_ok (sv_up S 1000 0 (0 : Int)) := sm_upI hok sm_r1000 (⟨by decide, by decide⟩ : sv_R (0 : Int))
  have md2 : sv_mod [1000, 1002] S (sv_up S 1000 0 (0 : Int)) := sv_mod.up sv_mod.rf (by decide)
  refine sv_iload_n hM dX12_back_5 rfl rfl ?_
  refine sv_cond_lt hM dX12_back_6 hp1 (t := 17) rfl rfl (fun hc => ?_) (fun hc => ?_)
  · have h := h.1 (hc)
    refine sv_iconst (d := (-1 : Int)) hM dX12_back_17 rfl rfl ?_
    exact sv_iret hM dX12_back_18 rfl rfl ⟨(-1 : Int), rfl, (⟨by decide, by decide⟩ : sv_R (-1 : Int)), ok1, md2, h⟩
  · have h := h.2 (hc)
    refine sv_iload_n hM dX12_back_9 rfl rfl ?_
    refine sv_aload_n hM dX12_back_10 rfl rfl ?_
    have k3 : sv_R (S 1002 0) := sm_okI ok1 sm_r1002 0
    have h := h k3
    refine sv_getI hM dX12_back_11 sm_fl_293 (sm_a0 _) sm_k2 rfl (x := (S 1002 0)) rfl ?_
    refine sv_icmp_le hM dX12_back_14 hp1 k3 (t := 19) rfl rfl (fun hc => ?_) (fun hc => ?_)
    · have h := h.1 (hc)
      refine sv_aload_n hM dX12_back_19 rfl rfl ?_
      refine sv_dupA hM dX12_back_20 rfl ?_
      refine sv_getI hM dX12_back_21 sm_fl_293 (sm_a0 _) sm_k2 rfl (x := (S 1002 0)) rfl ?_
      refine sv_iload_n hM dX12_back_24 rfl rfl ?_
      refine sv_isub hM dX12_back_25 rfl ?_
      obtain ⟨o4, h⟩ := h
      refine sv_putI sm_X hM dX12_back_26 sm_fp_293 (sm_a0 _) sm_q2 (Or.inl rfl) rfl rfl rfl rfl ?_
      have ok5 : sm_ok (sv_up (sv_up S 1000 0 (0 : Int)) 1002 0 ((S 1002 0) - p1)) := sm_upI ok1 sm_r1002 o4
      have md6 : sv_mod [1000, 1002] S (sv_up (sv_up S 1000 0 (0 : Int)) 1002 0 ((S 1002 0) - p1)) := sv_mod.up md2 (by decide)
      refine sv_aload_n hM dX12_back_29 rfl rfl ?_
      refine sv_getI hM dX12_back_30 sm_fl_293 (sm_a0 _) sm_k2 rfl (x := ((S 1002 0) - p1)) rfl ?_
      exact sv_iret hM dX12_back_33 rfl rfl ⟨((S 1002 0) - p1), rfl, o4, ok5, md6, h⟩
    · have h := h.2 (hc)
      refine sv_iconst (d := (-1 : Int)) hM dX12_back_17 rfl rfl ?_
      exact sv_iret hM dX12_back_18 rfl rfl ⟨(-1 : Int), rfl, (⟨by decide, by decide⟩ : sv_R (-1 : Int)), ok1, md2, h⟩
