
/-! REGIONS: R n: the try (its node) within whose finally node n lies, -1: none -/
def sm_rq (R : Int → Int) (N e q : Int) : Prop := e = -1 ∨ (0 ≤ e ∧ e < N ∧ R e = q)
def sm_rn (so wo ne R : Int → Int) (N n : Int) : Prop :=
  (-1 ≤ R n ∧ R n < n) ∧
  (so n = 20 → sm_rq R N (wo (5 * n)) (R n)) ∧
  (so n = 24 → sm_rq R N (wo (5 * n + 1)) (R n) ∧ sm_rq R N (wo (5 * n + 2)) (R n)) ∧
  (so n = 25 ∨ so n = 26 → sm_rq R N (wo (5 * n + 1)) (R n)) ∧
  (so n = 27 → sm_rq R N (wo (5 * n)) (R n) ∧ sm_rq R N (wo (5 * n + 3)) (R n)) ∧
  (so n = 28 → sm_rq R N (wo (5 * n + 2)) (R n)) ∧
  (so n = 33 → sm_rq R N (wo (5 * n)) (R n) ∧ sm_rq R N (wo (5 * n + 2)) (R n) ∧ sm_rq R N (wo (5 * n + 3)) n) ∧
  (so n = 34 ∨ so n = 35 → sm_rq R N (wo (5 * n + 1)) (R n)) ∧
  sm_rq R N (ne n) (R n) ∧
  (so n = 34 → wo (5 * n + 1) = -1 ∨ so (wo (5 * n + 1)) = 35) ∧ (so n = 35 → ne n = -1 ∨ so (ne n) = 35)
def sm_RG (so wo ne R : Int → Int) (N : Int) : Prop := ∀ n : Int, 0 ≤ n → n < N → sm_rn so wo ne R N n
theorem sm_rq_F {R R' : Int → Int} {N N' e q : Int} (h : sm_rq R N e q) (f : sm_F1 R R' N) (hN : N ≤ N') : sm_rq R' N' e q := h.imp id (fun z => ⟨z.1, by omega, by rw [f e z.2.1]; exact z.2.2⟩)
theorem sm_rn_F {so wo ne R so' wo' ne' R' : Int → Int} {N N' n : Int} (h : sm_rn so wo ne R N n) (hn : n < N) (e1 : so' n = so n) (w0 : wo' (5 * n) = wo (5 * n)) (w1 : wo' (5 * n + 1) = wo (5 * n + 1)) (w2 : wo' (5 * n + 2) = wo (5 * n + 2)) (w3 : wo' (5 * n + 3) = wo (5 * n + 3)) (e3 : ne' n = ne n) (f : sm_F1 R R' N) (fs : sm_F1 so so' N) (hN : N ≤ N') : sm_rn so' wo' ne' R' N' n := by
  obtain ⟨a0, a1, a2, a3, a4, a5, a6, a7, a8, a9, b1⟩ := h
  have T : ∀ {e q : Int}, sm_rq R N e q → sm_rq R' N' e q := fun z => sm_rq_F z f hN
  unfold sm_rn
  rw [e1, w0, w1, w2, w3, e3, f n hn]
  refine ⟨a0, fun z => T (a1 z), fun z => ⟨T (a2 z).1, T (a2 z).2⟩, fun z => T (a3 z), fun z => ⟨T (a4 z).1, T (a4 z).2⟩, fun z => T (a5 z), fun z => ⟨T (a6 z).1, T (a6 z).2.1, T (a6 z).2.2⟩, fun z => T (a7 z), T a8, fun z => ?_, fun z => ?_⟩
  · rcases a7 (Or.inl z) with w | w
    · exact Or.inl w
    · rw [fs _ w.2.1]; exact a9 z
  · rcases a8 with w | w
    · exact Or.inl w
    · rw [fs _ w.2.1]; exact b1 z
theorem sm_RG_0 {so wo ne R : Int → Int} {N : Int} (h : N ≤ 0) : sm_RG so wo ne R N := fun n h0 h1 => by omega
/-- a node comes -/
theorem sm_RG_node {so wo ne R so' wo' ne' R' : Int → Int} {N N' p1 p2 p3 p4 q : Int} (h : sm_RG so wo ne R N) (hN : N' = N + 1) (e1 : sm_F1 so so' N) (e2 : sm_F1 wo wo' (5 * N)) (e3 : sm_F1 ne ne' N) (e4 : sm_F1 R R' N)
    (s1 : so' N = p1) (s2 : wo' (5 * N) = p2) (s3 : wo' (5 * N + 1) = p3) (s4 : wo' (5 * N + 2) = p4) (s5 : wo' (5 * N + 3) = -1) (s6 : ne' N = -1) (s7 : R' N = q) (hq : -1 ≤ q ∧ q < N)
    (k1 : p1 = 20 → (p2 = -1 ∨ (0 ≤ p2 ∧ p2 < N ∧ R p2 = q))) (k2 : p1 = 24 → (p3 = -1 ∨ (0 ≤ p3 ∧ p3 < N ∧ R p3 = q)) ∧ (p4 = -1 ∨ (0 ≤ p4 ∧ p4 < N ∧ R p4 = q))) (k3 : p1 = 25 ∨ p1 = 26 → (p3 = -1 ∨ (0 ≤ p3 ∧ p3 < N ∧ R p3 = q)))
    (k4 : p1 = 27 → (p2 = -1 ∨ (0 ≤ p2 ∧ p2 < N ∧ R p2 = q))) (k5 : p1 = 28 → (p4 = -1 ∨ (0 ≤ p4 ∧ p4 < N ∧ R p4 = q))) (k6 : p1 = 33 → p2 = -1 ∧ p4 = -1) (k7 : p1 = 34 ∨ p1 = 35 → p3 = -1) : sm_RG so' wo' ne' R' N' := fun n h0 h1 => by
  by_cases hn : n < N
  · exact sm_rn_F (h n h0 hn) hn (e1 n hn) (e2 _ (by omega)) (e2 _ (by omega)) (e2 _ (by omega)) (e2 _ (by omega)) (e3 n hn) e4 e1 (by omega)
  · have hn' : n = N := by omega
    subst hn'
    have T : ∀ {e : Int}, (e = -1 ∨ (0 ≤ e ∧ e < n ∧ R e = q)) → sm_rq R' N' e q := fun z => sm_rq_F (N := n) (N' := N') z e4 (by omega)
    unfold sm_rn
    rw [s1, s2, s3, s4, s5, s6, s7]
    exact ⟨hq, fun z => T (k1 z), fun z => ⟨T (k2 z).1, T (k2 z).2⟩, fun z => T (k3 z), fun z => ⟨T (k4 z), Or.inl rfl⟩, fun z => T (k5 z), fun z => ⟨Or.inl (k6 z).1, Or.inl (k6 z).2, Or.inl rfl⟩, fun z => Or.inl (k7 z), Or.inl rfl, fun z => Or.inl (k7 (Or.inl z)), fun _ => Or.inl rfl⟩
/-- a word is written -/
theorem sm_RG_word {so wo ne R : Int → Int} {N i v : Int} (h : sm_RG so wo ne R N) (r : Int) (hi : 5 * r ≤ i ∧ i < 5 * r + 5)
    (k : so r < 20 ∨ (so r = 33 ∧ (i = 5 * r + 1 ∨ i = 5 * r + 4)) ∨ (so r = 35 ∧ i = 5 * r + 2) ∨ (so r = 33 ∧ i = 5 * r + 3 ∧ (v = -1 ∨ (0 ≤ v ∧ v < N ∧ R v = r))) ∨ (¬ (so r = 33 ∧ i = 5 * r + 3) ∧ (v = -1 ∨ (0 ≤ v ∧ v < N ∧ R v = R r)))) (k2 : so r = 34 → i = 5 * r + 1 → v = -1 ∨ so v = 35) : sm_RG so (fun i' : Int => if i' = i then v else wo i') ne R N := fun n h0 h1 => by
  by_cases hn : n = r
  · subst hn
    obtain ⟨a0, a1, a2, a3, a4, a5, a6, a7, a8, a9, b1⟩ := h n h0 h1
    have G : ∀ {j e q : Int}, sm_rq R N (wo j) q → (j = i → sm_rq R N v q) → sm_rq R N (if j = i then v else wo j) q := fun {j e q} z w => by
      by_cases hj : j = i
      · rw [if_pos hj]; exact w hj
      · rw [if_neg hj]; exact z
    unfold sm_rn
    dsimp only
    refine ⟨a0, fun z => G (e := 0) (a1 z) (fun w => ?_), fun z => ⟨G (e := 0) (a2 z).1 (fun w => ?_), G (e := 0) (a2 z).2 (fun w => ?_)⟩, fun z => G (e := 0) (a3 z) (fun w => ?_), fun z => ⟨G (e := 0) (a4 z).1 (fun w => ?_), G (e := 0) (a4 z).2 (fun w => ?_)⟩, fun z => G (e := 0) (a5 z) (fun w => ?_), fun z => ⟨G (e := 0) (a6 z).1 (fun w => ?_), G (e := 0) (a6 z).2.1 (fun w => ?_), G (e := 0) (a6 z).2.2 (fun w => ?_)⟩, fun z => G (e := 0) (a7 z) (fun w => ?_), a8, fun z => ?_, b1⟩
    all_goals first | (unfold sm_rq; omega) | skip
    by_cases hj : 5 * n + 1 = i
    · rw [if_pos hj]; exact k2 z hj.symm
    · rw [if_neg hj]; exact a9 z
  · exact sm_rn_F (h n h0 h1) h1 rfl (if_neg (by omega)) (if_neg (by omega)) (if_neg (by omega)) (if_neg (by omega)) rfl sm_F1_rf sm_F1_rf (Int.le_refl _)
/-- a list goes on -/
theorem sm_RG_ne {so wo ne R : Int → Int} {N r x : Int} (h : sm_RG so wo ne R N) (k : x = -1 ∨ (0 ≤ x ∧ x < N ∧ R x = R r)) (k2 : so r = 35 → x = -1 ∨ so x = 35) : sm_RG so wo (fun i' : Int => if i' = r then x else ne i') R N := fun n h0 h1 => by
  by_cases hn : n = r
  · subst hn
    obtain ⟨a0, a1, a2, a3, a4, a5, a6, a7, a8, a9, b1⟩ := h n h0 h1
    refine ⟨a0, a1, a2, a3, a4, a5, a6, a7, ?_, a9, ?_⟩
    · dsimp only
      rw [if_pos rfl]
      exact k
    · dsimp only
      rw [if_pos rfl]
      exact k2
  · exact sm_rn_F (h n h0 h1) h1 rfl rfl rfl rfl rfl (if_neg hn) sm_F1_rf sm_F1_rf (Int.le_refl _)

def q_nodeR (p1 : Int) (p2 : Int) (p3 : Int) (p4 : Int) (S : sv_S) : Option Value → sv_S → Prop := fun v S' => ∃ r : Int, v = some (sv_I r) ∧ sv_R r ∧ sm_ok S' ∧ sv_mod [1024, 11, 12, 13, 14, 1100019, 1100035] S S' ∧ (r = (S 1024 0) ∧ (S' 1024 0) = (S 1024 0) + 1 ∧ (S' 11 r) = p1 ∧ (S' 12 (5 * r)) = p2 ∧ (S' 12 (5 * r + 1)) = p3 ∧ (S' 12 (5 * r + 2)) = p4 ∧ (S' 12 (5 * r + 3)) = -1 ∧ (S' 12 (5 * r + 4)) = -1 ∧ (S' 13 r) = -1 ∧ (S' 14 r) = 0 ∧ (∀ n : Int, n < (S 1024 0) → (S' 14 n) = (S 14 n)) ∧ (sm_WF (S 11) (S 12) (S 13) (S 1100001) (S 1100002) (S 1100005) (S 1100003) (S 1100004) (S 1024 0) (S 1007 0) (S 1009 0) (sm_fn (S 1032 0) (S 21) (S 1043 0)) → sm_WF (S' 11) (S' 12) (S' 13) (S' 1100001) (S' 1100002) (S' 1100005) (S' 1100003) (S' 1100004) (S' 1024 0) (S' 1007 0) (S' 1009 0) (sm_fn (S' 1032 0) (S' 21) (S' 1043 0)) ∧ (S' 1100001 r) = 0) ∧ sm_PX (S 11) (S 12) (S 13) (S 1100001) (S 1100002) (S 1100005) (S 1100003) (S 1100004) (S' 11) (S' 12) (S' 13) (S' 1100001) (S' 1100002) (S' 1100005) (S' 1100003) (S' 1100004) (S 1024 0) ∧ (S' 1100019 r) = (S' 1043 0) ∧ sm_F1 (S 1100019) (S' 1100019) (S 1024 0) ∧ (sm_WG (S 1100001) (S 1100019) (S 1043 0) → sm_WG (S' 1100001) (S' 1100019) (S' 1043 0)) ∧ (sm_FT (S 11) (S 12) (S 13) (S 1100019) (S 17) (S 18) (S 21) (S 19) (S 20) (S 22) (S 1100016) (S 1024 0) (S 1007 0) (S 1009 0) (S 1032 0) (S 1032 0) → sm_FT (S' 11) (S' 12) (S' 13) (S' 1100019) (S' 17) (S' 18) (S' 21) (S' 19) (S' 20) (S' 22) (S' 1100016) (S' 1024 0) (S' 1007 0) (S' 1009 0) (S' 1032 0) (S' 1032 0)) ∧ (S' 1100035 r) = (S' 1100036 0) ∧ sm_F1 (S 1100035) (S' 1100035) (S 1024 0) ∧ (sm_RG (S 11) (S 12) (S 13) (S 1100035) (S 1024 0) → (p1 = 20 → (p2 = -1 ∨ (0 ≤ p2 ∧ p2 < (S 1024 0) ∧ (S 1100035 p2) = (S' 1100036 0)))) → (p1 = 24 → (p3 = -1 ∨ (0 ≤ p3 ∧ p3 < (S 1024 0) ∧ (S 1100035 p3) = (S' 1100036 0))) ∧ (p4 = -1 ∨ (0 ≤ p4 ∧ p4 < (S 1024 0) ∧ (S 1100035 p4) = (S' 1100036 0)))) → (p1 = 25 ∨ p1 = 26 → (p3 = -1 ∨ (0 ≤ p3 ∧ p3 < (S 1024 0) ∧ (S 1100035 p3) = (S' 1100036 0)))) → (p1 = 27 → (p2 = -1 ∨ (0 ≤ p2 ∧ p2 < (S 1024 0) ∧ (S 1100035 p2) = (S' 1100036 0)))) → (p1 = 28 → (p4 = -1 ∨ (0 ≤ p4 ∧ p4 < (S 1024 0) ∧ (S 1100035 p4) = (S' 1100036 0)))) → (p1 = 33 → p2 = -1 ∧ p4 = -1) → (p1 = 34 ∨ p1 = 35 → p3 = -1) → sm_RG (S' 11) (S' 12) (S' 13) (S' 1100035) (S' 1024 0)))
theorem la_nodeR_0 {x0 : Int} (h0 : 0 ≤ x0) (h1 : x0 < 12000) : sv_R (x0 + 1) := by omega
theorem la_nodeR_1 {x0 : Int} (h0 : 0 ≤ x0) (h1 : x0 < 12000) : 0 ≤ x0 ∧ x0 < 12000 := by omega
theorem la_nodeR_2 {x0 : Int} (h0 : 0 ≤ x0) (h1 : x0 < 12000) : 0 ≤ 5 * x0 ∧ 5 * x0 < 60000 := by omega
theorem la_nodeR_3 {x0 : Int} (h0 : 0 ≤ x0) (h1 : x0 < 12000) : 0 ≤ 5 * x0 + 1 ∧ 5 * x0 + 1 < 60000 := by omega
theorem la_nodeR_4 {x0 : Int} (h0 : 0 ≤ x0) (h1 : x0 < 12000) : 0 ≤ 5 * x0 + 2 ∧ 5 * x0 + 2 < 60000 := by omega
theorem la_nodeR_5 {x0 : Int} (h0 : 0 ≤ x0) (h1 : x0 < 12000) : 0 ≤ 5 * x0 + 3 ∧ 5 * x0 + 3 < 60000 := by omega
theorem la_nodeR_6 {x0 : Int} (h0 : 0 ≤ x0) (h1 : x0 < 12000) : 0 ≤ 5 * x0 + 4 ∧ 5 * x0 + 4 < 60000 := by omega
theorem la_nodeR_7 {x0 x1 : Int} (h0 : x0 < 12000) (h1 : (-1) ≤ x1) (h2 : x1 < x0) : sv_R x1 := by omega
theorem la_nodeR_8 {x0 : Int} : ¬ 5 * x0 + 2 = 5 * x0 + 4 := by omega
theorem la_nodeR_9 {x0 : Int} : ¬ 5 * x0 = 5 * x0 + 2 := by omega
theorem la_nodeR_10 {x0 : Int} : ¬ 5 * x0 + 3 = 5 * x0 + 1 := by omega
theorem la_nodeR_11 {x0 : Int} : ¬ 5 * x0 + 1 = 5 * x0 + 4 := by omega
theorem la_nodeR_12 {x0 : Int} : x0 = x0 := by omega
theorem la_nodeR_13 {x0 : Int} : ¬ 5 * x0 + 1 = 5 * x0 := by omega
theorem la_nodeR_14 {x0 : Int} : ¬ 5 * x0 + 3 = 5 * x0 := by omega
theorem la_nodeR_15 {x0 : Int} : ¬ 5 * x0 = 5 * x0 + 4 := by omega
theorem la_nodeR_16 {x0 : Int} : ¬ 5 * x0 + 2 = 5 * x0 + 1 := by omega
theorem la_nodeR_17 {x0 : Int} : 5 * x0 + 2 = 5 * x0 + 2 := by omega
theorem la_nodeR_18 {x0 : Int} : 5 * x0 + 3 = 5 * x0 + 3 := by omega
theorem la_nodeR_19 {x0 : Int} : 5 * x0 + 1 = 5 * x0 + 1 := by omega
theorem la_nodeR_20 {x0 : Int} : ¬ 5 * x0 + 2 = 5 * x0 + 3 := by omega
theorem la_nodeR_21 {x0 : Int} : ¬ 5 * x0 + 3 = 5 * x0 + 4 := by omega
theorem la_nodeR_22 {x0 : Int} : ¬ 5 * x0 = 5 * x0 + 3 := by omega
theorem la_nodeR_23 {x0 : Int} : 5 * x0 = 5 * x0 := by omega
theorem la_nodeR_24 {x0 : Int} : ¬ 5 * x0 + 1 = 5 * x0 + 2 := by omega
theorem la_nodeR_25 {x0 : Int} : ¬ 5 * x0 + 3 = 5 * x0 + 2 := by omega
theorem la_nodeR_26 {x0 : Int} : ¬ 5 * x0 = 5 * x0 + 1 := by omega
theorem la_nodeR_27 {x0 : Int} : ¬ 5 * x0 + 1 = 5 * x0 + 3 := by omega
theorem la_nodeR_28 {x0 : Int} : ¬ 5 * x0 + 2 = 5 * x0 := by omega
theorem la_nodeR_29 {x0 : Int} : x0 + 1 = x0 + 1 := by omega
theorem la_nodeR_30 {x0 x1 x2 x3 x4 x5 : Int} (h0 : x0 = x1) (h1 : x2 = x3) (h2 : x3 = x0) (h3 : x4 = x5) (h4 : x1 = x4) : x2 = x5 := by omega
theorem la_nodeR_31 {x0 x1 x2 x3 x4 : Int} (h0 : x0 = x1) (h1 : x2 = x3) (h2 : x4 = x2) (h3 : x1 = x4) : x0 = x3 := by omega
theorem la_nodeR_32 {x0 x1 x2 x3 : Int} (h0 : x0 = x1) (h1 : x2 = x3) (h2 : x1 = x2) : x0 = x3 := by omega
theorem la_nodeR_33 {x0 x1 : Int} (h0 : x0 = (-1)) (h1 : x1 = x0) : x1 = (-1) := by omega
theorem la_nodeR_34 {x0 : Int} : ¬ 5 * x0 + 4 = 5 * x0 + 3 := by omega
theorem la_nodeR_35 {x0 : Int} : 5 * x0 + 4 = 5 * x0 + 4 := by omega
theorem la_nodeR_36 {x0 : Int} : ¬ 5 * x0 + 4 = 5 * x0 := by omega
theorem la_nodeR_37 {x0 : Int} : ¬ 5 * x0 + 4 = 5 * x0 + 2 := by omega
theorem la_nodeR_38 {x0 : Int} : ¬ 5 * x0 + 4 = 5 * x0 + 1 := by omega
theorem la_nodeR_39 {x0 x1 : Int} (h0 : x0 < x1) : ¬ x0 = x1 := by omega
theorem la_nodeR_40 {x0 : Int} : x0 ≤ x0 := by omega
theorem la_nodeR_41 {x0 : Int} : 5 * x0 ≤ 5 * x0 + 1 := by omega
theorem la_nodeR_42 {x0 : Int} : 5 * x0 ≤ 5 * x0 + 2 := by omega
theorem la_nodeR_43 {x0 : Int} : 5 * x0 ≤ 5 * x0 + 3 := by omega
theorem la_nodeR_44 {x0 : Int} : 5 * x0 ≤ 5 * x0 + 4 := by omega
theorem la_nodeR_45 {x0 : Int} : x0 ≤ x0 + 1 := by omega
theorem la_nodeR_46 {x0 x1 : Int} (h0 : (-1) ≤ x0) (h1 : x0 < x1) : (-1) ≤ x0 ∧ x0 < x1 := by omega
set_option maxHeartbeats 2000000 in
theorem f_nodeR : ∀ (p1 : Int) (p2 : Int) (p3 : Int) (p4 : Int) (S : sv_S), sm_ok S → sv_R p1 → sv_R p2 → sv_R p3 → sv_R p4 → (0 ≤ (S 1024 0) ∧ (S 1024 0) < 12000 ∧ -1 ≤ (S 1100036 0) ∧ (S 1100036 0) < (S 1024 0)) → (sv_R (S 1024 0) → (sv_R ((S 1024 0) + (1 : Int))) ∧ (0 ≤ (S 1024 0) ∧ (S 1024 0) < 12000) ∧ (0 ≤ ((5 : Int) * (S 1024 0)) ∧ ((5 : Int) * (S 1024 0)) < 60000) ∧ (0 ≤ (((5 : Int) * (S 1024 0)) + (1 : Int)) ∧ (((5 : Int) * (S 1024 0)) + (1 : Int)) < 60000) ∧ (0 ≤ (((5 : Int) * (S 1024 0)) + (2 : Int)) ∧ (((5 : Int) * (S 1024 0)) + (2 : Int)) < 60000) ∧ (0 ≤ (((5 : Int) * (S 1024 0)) + (3 : Int)) ∧ (((5 : Int) * (S 1024 0)) + (3 : Int)) < 60000) ∧ (0 ≤ (((5 : Int) * (S 1024 0)) + (4 : Int)) ∧ (((5 : Int) * (S 1024 0)) + (4 : Int)) < 60000) ∧ (sv_R (S 1043 0) → (sv_R ((S 1100036 0))) ∧ ((sm_RG (S 11) (S 12) (S 13) (S 1100035) (S 1024 0) → ((S 1024 0) + (1 : Int)) = (S 1024 0) + 1 → sm_F1 (S 11) (fun i' : Int => if i' = (S 1024 0) then p1 else (S 11) i') (S 1024 0) → sm_F1 (S 12) (fun i' : Int => if i' = (((5 : Int) * (S 1024 0)) + (4 : Int)) then (-1 : Int) else (fun i' : Int => if i' = (((5 : Int) * (S 1024 0)) + (3 : Int)) then (-1 : Int) else (fun i' : Int => if i' = (((5 : Int) * (S 1024 0)) + (2 : Int)) then p4 else (fun i' : Int => if i' = (((5 : Int) * (S 1024 0)) + (1 : Int)) then p3 else (fun i' : Int => if i' = ((5 : Int) * (S 1024 0)) then p2 else (S 12) i') i') i') i') i') (5 * (S 1024 0)) → sm_F1 (S 13) (fun i' : Int => if i' = (S 1024 0) then (-1 : Int) else (S 13) i') (S 1024 0) → sm_F1 (S 1100035) (fun i' : Int => if i' = (S 1024 0) then ((S 1100036 0)) else (S 1100035) i') (S 1024 0) → (if (S 1024 0) = (S 1024 0) then p1 else (S 11 (S 1024 0))) = p1 → (if (5 * (S 1024 0)) = (((5 : Int) * (S 1024 0)) + (4 : Int)) then (-1 : Int) else (if (5 * (S 1024 0)) = (((5 : Int) * (S 1024 0)) + (3 : Int)) then (-1 : Int) else (if (5 * (S 1024 0)) = (((5 : Int) * (S 1024 0)) + (2 : Int)) then p4 else (if (5 * (S 1024 0)) = (((5 : Int) * (S 1024 0)) + (1 : Int)) then p3 else (if (5 * (S 1024 0)) = ((5 : Int) * (S 1024 0)) then p2 else (S 12 (5 * (S 1024 0)))))))) = p2 → (if (5 * (S 1024 0) + 1) = (((5 : Int) * (S 1024 0)) + (4 : Int)) then (-1 : Int) else (if (5 * (S 1024 0) + 1) = (((5 : Int) * (S 1024 0)) + (3 : Int)) then (-1 : Int) else (if (5 * (S 1024 0) + 1) = (((5 : Int) * (S 1024 0)) + (2 : Int)) then p4 else (if (5 * (S 1024 0) + 1) = (((5 : Int) * (S 1024 0)) + (1 : Int)) then p3 else (if (5 * (S 1024 0) + 1) = ((5 : Int) * (S 1024 0)) then p2 else (S 12 (5 * (S 1024 0) + 1))))))) = p3 → (if (5 * (S 1024 0) + 2) = (((5 : Int) * (S 1024 0)) + (4 : Int)) then (-1 : Int) else (if (5 * (S 1024 0) + 2) = (((5 : Int) * (S 1024 0)) + (3 : Int)) then (-1 : Int) else (if (5 * (S 1024 0) + 2) = (((5 : Int) * (S 1024 0)) + (2 : Int)) then p4 else (if (5 * (S 1024 0) + 2) = (((5 : Int) * (S 1024 0)) + (1 : Int)) then p3 else (if (5 * (S 1024 0) + 2) = ((5 : Int) * (S 1024 0)) then p2 else (S 12 (5 * (S 1024 0) + 2))))))) = p4 → (if (5 * (S 1024 0) + 3) = (((5 : Int) * (S 1024 0)) + (4 : Int)) then (-1 : Int) else (if (5 * (S 1024 0) + 3) = (((5 : Int) * (S 1024 0)) + (3 : Int)) then (-1 : Int) else (if (5 * (S 1024 0) + 3) = (((5 : Int) * (S 1024 0)) + (2 : Int)) then p4 else (if (5 * (S 1024 0) + 3) = (((5 : Int) * (S 1024 0)) + (1 : Int)) then p3 else (if (5 * (S 1024 0) + 3) = ((5 : Int) * (S 1024 0)) then p2 else (S 12 (5 * (S 1024 0) + 3))))))) = -1 → (if (S 1024 0) = (S 1024 0) then (-1 : Int) else (S 13 (S 1024 0))) = -1 → (if (S 1024 0) = (S 1024 0) then ((S 1100036 0)) else (S 1100035 (S 1024 0))) = (S 1100036 0) → -1 ≤ (S 1100036 0) ∧ (S 1100036 0) < (S 1024 0) → (p1 = 20 → (p2 = -1 ∨ (0 ≤ p2 ∧ p2 < (S 1024 0) ∧ (S 1100035 p2) = (S 1100036 0)))) → (p1 = 24 → (p3 = -1 ∨ (0 ≤ p3 ∧ p3 < (S 1024 0) ∧ (S 1100035 p3) = (S 1100036 0))) ∧ (p4 = -1 ∨ (0 ≤ p4 ∧ p4 < (S 1024 0) ∧ (S 1100035 p4) = (S 1100036 0)))) → (p1 = 25 ∨ p1 = 26 → (p3 = -1 ∨ (0 ≤ p3 ∧ p3 < (S 1024 0) ∧ (S 1100035 p3) = (S 1100036 0)))) → (p1 = 27 → (p2 = -1 ∨ (0 ≤ p2 ∧ p2 < (S 1024 0) ∧ (S 1100035 p2) = (S 1100036 0)))) → (p1 = 28 → (p4 = -1 ∨ (0 ≤ p4 ∧ p4 < (S 1024 0) ∧ (S 1100035 p4) = (S 1100036 0)))) → (p1 = 33 → p2 = -1 ∧ p4 = -1) → (p1 = 34 ∨ p1 = 35 → p3 = -1) → sm_RG (fun i' : Int => if i' = (S 1024 0) then p1 else (S 11) i') (fun i' : Int => if i' = (((5 : Int) * (S 1024 0)) + (4 : Int)) then (-1 : Int) else (fun i' : Int => if i' = (((5 : Int) * (S 1024 0)) + (3 : Int)) then (-1 : Int) else (fun i' : Int => if i' = (((5 : Int) * (S 1024 0)) + (2 : Int)) then p4 else (fun i' : Int => if i' = (((5 : Int) * (S 1024 0)) + (1 : Int)) then p3 else (fun i' : Int => if i' = ((5 : Int) * (S 1024 0)) then p2 else (S 12) i') i') i') i') i') (fun i' : Int => if i' = (S 1024 0) then (-1 : Int) else (S 13) i') (fun i' : Int => if i' = (S 1024 0) then ((S 1100036 0)) else (S 1100035) i') ((S 1024 0) + (1 : Int))) → ((S 1024 0) = (S 1024 0) ∧ ((S 1024 0) + (1 : Int)) = (S 1024 0) + 1 ∧ (if (S 1024 0) = (S 1024 0) then p1 else (S 11 (S 1024 0))) = p1 ∧ (if (5 * (S 1024 0)) = (((5 : Int) * (S 1024 0)) + (4 : Int)) then (-1 : Int) else (if (5 * (S 1024 0)) = (((5 : Int) * (S 1024 0)) + (3 : Int)) then (-1 : Int) else (if (5 * (S 1024 0)) = (((5 : Int) * (S 1024 0)) + (2 : Int)) then p4 else (if (5 * (S 1024 0)) = (((5 : Int) * (S 1024 0)) + (1 : Int)) then p3 else (if (5 * (S 1024 0)) = ((5 : Int) * (S 1024 0)) then p2 else (S 12 (5 * (S 1024 0)))))))) = p2 ∧ (if (5 * (S 1024 0) + 1) = (((5 : Int) * (S 1024 0)) + (4 : Int)) then (-1 : Int) else (if (5 * (S 1024 0) + 1) = (((5 : Int) * (S 1024 0)) + (3 : Int)) then (-1 : Int) else (if (5 * (S 1024 0) + 1) = (((5 : Int) * (S 1024 0)) + (2 : Int)) then p4 else (if (5 * (S 1024 0) + 1) = (((5 : Int) * (S 1024 0)) + (1 : Int)) then p3 else (if (5 * (S 1024 0) + 1) = ((5 : Int) * (S 1024 0)) then p2 else (S 12 (5 * (S 1024 0) + 1))))))) = p3 ∧ (if (5 * (S 1024 0) + 2) = (((5 : Int) * (S 1024 0)) + (4 : Int)) then (-1 : Int) else (if (5 * (S 1024 0) + 2) = (((5 : Int) * (S 1024 0)) + (3 : Int)) then (-1 : Int) else (if (5 * (S 1024 0) + 2) = (((5 : Int) * (S 1024 0)) + (2 : Int)) then p4 else (if (5 * (S 1024 0) + 2) = (((5 : Int) * (S 1024 0)) + (1 : Int)) then p3 else (if (5 * (S 1024 0) + 2) = ((5 : Int) * (S 1024 0)) then p2 else (S 12 (5 * (S 1024 0) + 2))))))) = p4 ∧ (if (5 * (S 1024 0) + 3) = (((5 : Int) * (S 1024 0)) + (4 : Int)) then (-1 : Int) else (if (5 * (S 1024 0) + 3) = (((5 : Int) * (S 1024 0)) + (3 : Int)) then (-1 : Int) else (if (5 * (S 1024 0) + 3) = (((5 : Int) * (S 1024 0)) + (2 : Int)) then p4 else (if (5 * (S 1024 0) + 3) = (((5 : Int) * (S 1024 0)) + (1 : Int)) then p3 else (if (5 * (S 1024 0) + 3) = ((5 : Int) * (S 1024 0)) then p2 else (S 12 (5 * (S 1024 0) + 3))))))) = -1 ∧ (if (5 * (S 1024 0) + 4) = (((5 : Int) * (S 1024 0)) + (4 : Int)) then (-1 : Int) else (if (5 * (S 1024 0) + 4) = (((5 : Int) * (S 1024 0)) + (3 : Int)) then (-1 : Int) else (if (5 * (S 1024 0) + 4) = (((5 : Int) * (S 1024 0)) + (2 : Int)) then p4 else (if (5 * (S 1024 0) + 4) = (((5 : Int) * (S 1024 0)) + (1 : Int)) then p3 else (if (5 * (S 1024 0) + 4) = ((5 : Int) * (S 1024 0)) then p2 else (S 12 (5 * (S 1024 0) + 4))))))) = -1 ∧ (if (S 1024 0) = (S 1024 0) then (-1 : Int) else (S 13 (S 1024 0))) = -1 ∧ (if (S 1024 0) = (S 1024 0) then (0 : Int) else (S 14 (S 1024 0))) = 0 ∧ (∀ n : Int, n < (S 1024 0) → (if n = (S 1024 0) then (0 : Int) else (S 14 n)) = (S 14 n)) ∧ (sm_WF (S 11) (S 12) (S 13) (S 1100001) (S 1100002) (S 1100005) (S 1100003) (S 1100004) (S 1024 0) (S 1007 0) (S 1009 0) (sm_fn (S 1032 0) (S 21) (S 1043 0)) → sm_WF (fun i' : Int => if i' = (S 1024 0) then p1 else (S 11) i') (fun i' : Int => if i' = (((5 : Int) * (S 1024 0)) + (4 : Int)) then (-1 : Int) else (fun i' : Int => if i' = (((5 : Int) * (S 1024 0)) + (3 : Int)) then (-1 : Int) else (fun i' : Int => if i' = (((5 : Int) * (S 1024 0)) + (2 : Int)) then p4 else (fun i' : Int => if i' = (((5 : Int) * (S 1024 0)) + (1 : Int)) then p3 else (fun i' : Int => if i' = ((5 : Int) * (S 1024 0)) then p2 else (S 12) i') i') i') i') i') (fun i' : Int => if i' = (S 1024 0) then (-1 : Int) else (S 13) i') (S 1100001) (S 1100002) (S 1100005) (S 1100003) (S 1100004) ((S 1024 0) + (1 : Int)) (S 1007 0) (S 1009 0) (sm_fn (S 1032 0) (S 21) (S 1043 0)) ∧ (S 1100001 (S 1024 0)) = 0) ∧ sm_PX (S 11) (S 12) (S 13) (S 1100001) (S 1100002) (S 1100005) (S 1100003) (S 1100004) (fun i' : Int => if i' = (S 1024 0) then p1 else (S 11) i') (fun i' : Int => if i' = (((5 : Int) * (S 1024 0)) + (4 : Int)) then (-1 : Int) else (fun i' : Int => if i' = (((5 : Int) * (S 1024 0)) + (3 : Int)) then (-1 : Int) else (fun i' : Int => if i' = (((5 : Int) * (S 1024 0)) + (2 : Int)) then p4 else (fun i' : Int => if i' = (((5 : Int) * (S 1024 0)) + (1 : Int)) then p3 else (fun i' : Int => if i' = ((5 : Int) * (S 1024 0)) then p2 else (S 12) i') i') i') i') i') (fun i' : Int => if i' = (S 1024 0) then (-1 : Int) else (S 13) i') (S 1100001) (S 1100002) (S 1100005) (S 1100003) (S 1100004) (S 1024 0) ∧ (if (S 1024 0) = (S 1024 0) then (S 1043 0) else (S 1100019 (S 1024 0))) = (S 1043 0) ∧ sm_F1 (S 1100019) (fun i' : Int => if i' = (S 1024 0) then (S 1043 0) else (S 1100019) i') (S 1024 0) ∧ (sm_WG (S 1100001) (S 1100019) (S 1043 0) → sm_WG (S 1100001) (fun i' : Int => if i' = (S 1024 0) then (S 1043 0) else (S 1100019) i') (S 1043 0)) ∧ (sm_FT (S 11) (S 12) (S 13) (S 1100019) (S 17) (S 18) (S 21) (S 19) (S 20) (S 22) (S 1100016) (S 1024 0) (S 1007 0) (S 1009 0) (S 1032 0) (S 1032 0) → sm_FT (fun i' : Int => if i' = (S 1024 0) then p1 else (S 11) i') (fun i' : Int => if i' = (((5 : Int) * (S 1024 0)) + (4 : Int)) then (-1 : Int) else (fun i' : Int => if i' = (((5 : Int) * (S 1024 0)) + (3 : Int)) then (-1 : Int) else (fun i' : Int => if i' = (((5 : Int) * (S 1024 0)) + (2 : Int)) then p4 else (fun i' : Int => if i' = (((5 : Int) * (S 1024 0)) + (1 : Int)) then p3 else (fun i' : Int => if i' = ((5 : Int) * (S 1024 0)) then p2 else (S 12) i') i') i') i') i') (fun i' : Int => if i' = (S 1024 0) then (-1 : Int) else (S 13) i') (fun i' : Int => if i' = (S 1024 0) then (S 1043 0) else (S 1100019) i') (S 17) (S 18) (S 21) (S 19) (S 20) (S 22) (S 1100016) ((S 1024 0) + (1 : Int)) (S 1007 0) (S 1009 0) (S 1032 0) (S 1032 0)) ∧ (if (S 1024 0) = (S 1024 0) then ((S 1100036 0)) else (S 1100035 (S 1024 0))) = (S 1100036 0) ∧ sm_F1 (S 1100035) (fun i' : Int => if i' = (S 1024 0) then ((S 1100036 0)) else (S 1100035) i') (S 1024 0) ∧ (sm_RG (S 11) (S 12) (S 13) (S 1100035) (S 1024 0) → (p1 = 20 → (p2 = -1 ∨ (0 ≤ p2 ∧ p2 < (S 1024 0) ∧ (S 1100035 p2) = (S 1100036 0)))) → (p1 = 24 → (p3 = -1 ∨ (0 ≤ p3 ∧ p3 < (S 1024 0) ∧ (S 1100035 p3) = (S 1100036 0))) ∧ (p4 = -1 ∨ (0 ≤ p4 ∧ p4 < (S 1024 0) ∧ (S 1100035 p4) = (S 1100036 0)))) → (p1 = 25 ∨ p1 = 26 → (p3 = -1 ∨ (0 ≤ p3 ∧ p3 < (S 1024 0) ∧ (S 1100035 p3) = (S 1100036 0)))) → (p1 = 27 → (p2 = -1 ∨ (0 ≤ p2 ∧ p2 < (S 1024 0) ∧ (S 1100035 p2) = (S 1100036 0)))) → (p1 = 28 → (p4 = -1 ∨ (0 ≤ p4 ∧ p4 < (S 1024 0) ∧ (S 1100035 p4) = (S 1100036 0)))) → (p1 = 33 → p2 = -1 ∧ p4 = -1) → (p1 = 34 ∨ p1 = 35 → p3 = -1) → sm_RG (fun i' : Int => if i' = (S 1024 0) then p1 else (S 11) i') (fun i' : Int => if i' = (((5 : Int) * (S 1024 0)) + (4 : Int)) then (-1 : Int) else (fun i' : Int => if i' = (((5 : Int) * (S 1024 0)) + (3 : Int)) then (-1 : Int) else (fun i' : Int => if i' = (((5 : Int) * (S 1024 0)) + (2 : Int)) then p4 else (fun i' : Int => if i' = (((5 : Int) * (S 1024 0)) + (1 : Int)) then p3 else (fun i' : Int => if i' = ((5 : Int) * (S 1024 0)) then p2 else (S 12) i') i') i') i') i') (fun i' : Int => if i' = (S 1024 0) then (-1 : Int) else (S 13) i') (fun i' : Int => if i' = (S 1024 0) then ((S 1100036 0)) else (S 1100035) i') ((S 1024 0) + (1 : Int))))))) := by
  intro p1
  intro p2
  intro p3
  intro p4
  intro S
  intro h1_
  intro h2_
  intro h3_
  intro h4_
  intro h5_
  rintro ⟨h6_, ⟨h7_, ⟨h8_, h9_⟩⟩⟩
  intro h10_
  refine ⟨(la_nodeR_0 h6_ h7_), ?_⟩
  refine ⟨(la_nodeR_1 h6_ h7_), ?_⟩
  refine ⟨(la_nodeR_2 h6_ h7_), ?_⟩
  refine ⟨(la_nodeR_3 h6_ h7_), ?_⟩
  refine ⟨(la_nodeR_4 h6_ h7_), ?_⟩
  refine ⟨(la_nodeR_5 h6_ h7_), ?_⟩
  refine ⟨(la_nodeR_6 h6_ h7_), ?_⟩
  intro h11_
  refine ⟨(la_nodeR_7 h7_ h8_ h9_), ?_⟩
  intro h12_
  have e13_ : (if 5 * S 1024 0 + 2 = 5 * S 1024 0 + 4 then (-1) else (if 5 * S 1024 0 + 2 = 5 * S 1024 0 + 3 then (-1) else (if 5 * S 1024 0 + 2 = 5 * S 1024 0 + 2 then p4 else (if 5 * S 1024 0 + 2 = 5 * S 1024 0 + 1 then p3 else (if 5 * S 1024 0 + 2 = 5 * S 1024 0 then p2 else S 12 (5 * S 1024 0 + 2))))) : Int) = (if 5 * S 1024 0 + 2 = 5 * S 1024 0 + 3 then (-1) else (if 5 * S 1024 0 + 2 = 5 * S 1024 0 + 2 then p4 else (if 5 * S 1024 0 + 2 = 5 * S 1024 0 + 1 then p3 else (if 5 * S 1024 0 + 2 = 5 * S 1024 0 then p2 else S 12 (5 * S 1024 0 + 2))))) := if_neg la_nodeR_8
  have e14_ : (if 5 * S 1024 0 = 5 * S 1024 0 + 2 then p4 else (if 5 * S 1024 0 = 5 * S 1024 0 + 1 then p3 else (if 5 * S 1024 0 = 5 * S 1024 0 then p2 else S 12 (5 * S 1024 0))) : Int) = (if 5 * S 1024 0 = 5 * S 1024 0 + 1 then p3 else (if 5 * S 1024 0 = 5 * S 1024 0 then p2 else S 12 (5 * S 1024 0))) := if_neg la_nodeR_9
  have e15_ : (if 5 * S 1024 0 + 3 = 5 * S 1024 0 + 1 then p3 else (if 5 * S 1024 0 + 3 = 5 * S 1024 0 then p2 else S 12 (5 * S 1024 0 + 3)) : Int) = (if 5 * S 1024 0 + 3 = 5 * S 1024 0 then p2 else S 12 (5 * S 1024 0 + 3)) := if_neg la_nodeR_10
  have e16_ : (if 5 * S 1024 0 + 1 = 5 * S 1024 0 + 4 then (-1) else (if 5 * S 1024 0 + 1 = 5 * S 1024 0 + 3 then (-1) else (if 5 * S 1024 0 + 1 = 5 * S 1024 0 + 2 then p4 else (if 5 * S 1024 0 + 1 = 5 * S 1024 0 + 1 then p3 else (if 5 * S 1024 0 + 1 = 5 * S 1024 0 then p2 else S 12 (5 * S 1024 0 + 1))))) : Int) = (if 5 * S 1024 0 + 1 = 5 * S 1024 0 + 3 then (-1) else (if 5 * S 1024 0 + 1 = 5 * S 1024 0 + 2 then p4 else (if 5 * S 1024 0 + 1 = 5 * S 1024 0 + 1 then p3 else (if 5 * S 1024 0 + 1 = 5 * S 1024 0 then p2 else S 12 (5 * S 1024 0 + 1))))) := if_neg la_nodeR_11
  have e17_ : (if S 1024 0 = S 1024 0 then S 1100036 0 else S 1100035 (S 1024 0) : Int) = S 1100036 0 := if_pos la_nodeR_12
  have e18_ : (if 5 * S 1024 0 + 1 = 5 * S 1024 0 then p2 else S 12 (5 * S 1024 0 + 1) : Int) = S 12 (5 * S 1024 0 + 1) := if_neg la_nodeR_13
  have e19_ : (if S 1024 0 = S 1024 0 then p1 else S 11 (S 1024 0) : Int) = p1 := if_pos la_nodeR_12
  have e20_ : (if 5 * S 1024 0 + 3 = 5 * S 1024 0 then p2 else S 12 (5 * S 1024 0 + 3) : Int) = S 12 (5 * S 1024 0 + 3) := if_neg la_nodeR_14
  have e21_ : (if 5 * S 1024 0 = 5 * S 1024 0 + 4 then (-1) else (if 5 * S 1024 0 = 5 * S 1024 0 + 3 then (-1) else (if 5 * S 1024 0 = 5 * S 1024 0 + 2 then p4 else (if 5 * S 1024 0 = 5 * S 1024 0 + 1 then p3 else (if 5 * S 1024 0 = 5 * S 1024 0 then p2 else S 12 (5 * S 1024 0))))) : Int) = (if 5 * S 1024 0 = 5 * S 1024 0 + 3 then (-1) else (if 5 * S 1024 0 = 5 * S 1024 0 + 2 then p4 else (if 5 * S 1024 0 = 5 * S 1024 0 + 1 then p3 else (if 5 * S 1024 0 = 5 * S 1024 0 then p2 else S 12 (5 * S 1024 0))))) := if_neg la_nodeR_15
  have e22_ : (if 5 * S 1024 0 + 2 = 5 * S 1024 0 + 1 then p3 else (if 5 * S 1024 0 + 2 = 5 * S 1024 0 then p2 else S 12 (5 * S 1024 0 + 2)) : Int) = (if 5 * S 1024 0 + 2 = 5 * S 1024 0 then p2 else S 12 (5 * S 1024 0 + 2)) := if_neg la_nodeR_16
  have e23_ : (if 5 * S 1024 0 + 2 = 5 * S 1024 0 + 2 then p4 else (if 5 * S 1024 0 + 2 = 5 * S 1024 0 + 1 then p3 else (if 5 * S 1024 0 + 2 = 5 * S 1024 0 then p2 else S 12 (5 * S 1024 0 + 2))) : Int) = p4 := if_pos la_nodeR_17
  have e24_ : (if 5 * S 1024 0 + 3 = 5 * S 1024 0 + 3 then (-1) else (if 5 * S 1024 0 + 3 = 5 * S 1024 0 + 2 then p4 else (if 5 * S 1024 0 + 3 = 5 * S 1024 0 + 1 then p3 else (if 5 * S 1024 0 + 3 = 5 * S 1024 0 then p2 else S 12 (5 * S 1024 0 + 3)))) : Int) = (-1) := if_pos la_nodeR_18
  have e25_ : (if 5 * S 1024 0 + 1 = 5 * S 1024 0 + 1 then p3 else (if 5 * S 1024 0 + 1 = 5 * S 1024 0 then p2 else S 12 (5 * S 1024 0 + 1)) : Int) = p3 := if_pos la_nodeR_19
  have e26_ : (if 5 * S 1024 0 + 2 = 5 * S 1024 0 + 3 then (-1) else (if 5 * S 1024 0 + 2 = 5 * S 1024 0 + 2 then p4 else (if 5 * S 1024 0 + 2 = 5 * S 1024 0 + 1 then p3 else (if 5 * S 1024 0 + 2 = 5 * S 1024 0 then p2 else S 12 (5 * S 1024 0 + 2)))) : Int) = (if 5 * S 1024 0 + 2 = 5 * S 1024 0 + 2 then p4 else (if 5 * S 1024 0 + 2 = 5 * S 1024 0 + 1 then p3 else (if 5 * S 1024 0 + 2 = 5 * S 1024 0 then p2 else S 12 (5 * S 1024 0 + 2)))) := if_neg la_nodeR_20
  have e27_ : (if 5 * S 1024 0 + 3 = 5 * S 1024 0 + 4 then (-1) else (if 5 * S 1024 0 + 3 = 5 * S 1024 0 + 3 then (-1) else (if 5 * S 1024 0 + 3 = 5 * S 1024 0 + 2 then p4 else (if 5 * S 1024 0 + 3 = 5 * S 1024 0 + 1 then p3 else (if 5 * S 1024 0 + 3 = 5 * S 1024 0 then p2 else S 12 (5 * S 1024 0 + 3))))) : Int) = (if 5 * S 1024 0 + 3 = 5 * S 1024 0 + 3 then (-1) else (if 5 * S 1024 0 + 3 = 5 * S 1024 0 + 2 then p4 else (if 5 * S 1024 0 + 3 = 5 * S 1024 0 + 1 then p3 else (if 5 * S 1024 0 + 3 = 5 * S 1024 0 then p2 else S 12 (5 * S 1024 0 + 3))))) := if_neg la_nodeR_21
  have e28_ : (if 5 * S 1024 0 = 5 * S 1024 0 + 3 then (-1) else (if 5 * S 1024 0 = 5 * S 1024 0 + 2 then p4 else (if 5 * S 1024 0 = 5 * S 1024 0 + 1 then p3 else (if 5 * S 1024 0 = 5 * S 1024 0 then p2 else S 12 (5 * S 1024 0)))) : Int) = (if 5 * S 1024 0 = 5 * S 1024 0 + 2 then p4 else (if 5 * S 1024 0 = 5 * S 1024 0 + 1 then p3 else (if 5 * S 1024 0 = 5 * S 1024 0 then p2 else S 12 (5 * S 1024 0)))) := if_neg la_nodeR_22
  have e29_ : (if S 1024 0 = S 1024 0 then (-1) else S 13 (S 1024 0) : Int) = (-1) := if_pos la_nodeR_12
  have e30_ : (if 5 * S 1024 0 = 5 * S 1024 0 then p2 else S 12 (5 * S 1024 0) : Int) = p2 := if_pos la_nodeR_23
  have e31_ : (if 5 * S 1024 0 + 1 = 5 * S 1024 0 + 2 then p4 else (if 5 * S 1024 0 + 1 = 5 * S 1024 0 + 1 then p3 else (if 5 * S 1024 0 + 1 = 5 * S 1024 0 then p2 else S 12 (5 * S 1024 0 + 1))) : Int) = (if 5 * S 1024 0 + 1 = 5 * S 1024 0 + 1 then p3 else (if 5 * S 1024 0 + 1 = 5 * S 1024 0 then p2 else S 12 (5 * S 1024 0 + 1))) := if_neg la_nodeR_24
  have e32_ : (if 5 * S 1024 0 + 3 = 5 * S 1024 0 + 2 then p4 else (if 5 * S 1024 0 + 3 = 5 * S 1024 0 + 1 then p3 else (if 5 * S 1024 0 + 3 = 5 * S 1024 0 then p2 else S 12 (5 * S 1024 0 + 3))) : Int) = (if 5 * S 1024 0 + 3 = 5 * S 1024 0 + 1 then p3 else (if 5 * S 1024 0 + 3 = 5 * S 1024 0 then p2 else S 12 (5 * S 1024 0 + 3))) := if_neg la_nodeR_25
  have e33_ : (if 5 * S 1024 0 = 5 * S 1024 0 + 1 then p3 else (if 5 * S 1024 0 = 5 * S 1024 0 then p2 else S 12 (5 * S 1024 0)) : Int) = (if 5 * S 1024 0 = 5 * S 1024 0 then p2 else S 12 (5 * S 1024 0)) := if_neg la_nodeR_26
  have e34_ : (if 5 * S 1024 0 + 1 = 5 * S 1024 0 + 3 then (-1) else (if 5 * S 1024 0 + 1 = 5 * S 1024 0 + 2 then p4 else (if 5 * S 1024 0 + 1 = 5 * S 1024 0 + 1 then p3 else (if 5 * S 1024 0 + 1 = 5 * S 1024 0 then p2 else S 12 (5 * S 1024 0 + 1)))) : Int) = (if 5 * S 1024 0 + 1 = 5 * S 1024 0 + 2 then p4 else (if 5 * S 1024 0 + 1 = 5 * S 1024 0 + 1 then p3 else (if 5 * S 1024 0 + 1 = 5 * S 1024 0 then p2 else S 12 (5 * S 1024 0 + 1)))) := if_neg la_nodeR_27
  have e35_ : (if 5 * S 1024 0 + 2 = 5 * S 1024 0 then p2 else S 12 (5 * S 1024 0 + 2) : Int) = S 12 (5 * S 1024 0 + 2) := if_neg la_nodeR_28
  refine ⟨la_nodeR_12, ?_⟩
  refine ⟨la_nodeR_29, ?_⟩
  refine ⟨e19_, ?_⟩
  refine ⟨(la_nodeR_30 e14_ e21_ e28_ e30_ e33_), ?_⟩
  refine ⟨(la_nodeR_31 e16_ e25_ e31_ e34_), ?_⟩
  refine ⟨(la_nodeR_32 e13_ e23_ e26_), ?_⟩
  refine ⟨(la_nodeR_33 e24_ e27_), ?_⟩
  refine ⟨?_, ?_⟩
  · skip
    have e36_ : (if 5 * S 1024 0 + 4 = 5 * S 1024 0 + 3 then (-1) else (if 5 * S 1024 0 + 4 = 5 * S 1024 0 + 2 then p4 else (if 5 * S 1024 0 + 4 = 5 * S 1024 0 + 1 then p3 else (if 5 * S 1024 0 + 4 = 5 * S 1024 0 then p2 else S 12 (5 * S 1024 0 + 4)))) : Int) = (if 5 * S 1024 0 + 4 = 5 * S 1024 0 + 2 then p4 else (if 5 * S 1024 0 + 4 = 5 * S 1024 0 + 1 then p3 else (if 5 * S 1024 0 + 4 = 5 * S 1024 0 then p2 else S 12 (5 * S 1024 0 + 4)))) := if_neg la_nodeR_34
    have e37_ : (if 5 * S 1024 0 + 4 = 5 * S 1024 0 + 4 then (-1) else (if 5 * S 1024 0 + 4 = 5 * S 1024 0 + 3 then (-1) else (if 5 * S 1024 0 + 4 = 5 * S 1024 0 + 2 then p4 else (if 5 * S 1024 0 + 4 = 5 * S 1024 0 + 1 then p3 else (if 5 * S 1024 0 + 4 = 5 * S 1024 0 then p2 else S 12 (5 * S 1024 0 + 4))))) : Int) = (-1) := if_pos la_nodeR_35
    have e38_ : (if 5 * S 1024 0 + 4 = 5 * S 1024 0 then p2 else S 12 (5 * S 1024 0 + 4) : Int) = S 12 (5 * S 1024 0 + 4) := if_neg la_nodeR_36
    have e39_ : (if 5 * S 1024 0 + 4 = 5 * S 1024 0 + 2 then p4 else (if 5 * S 1024 0 + 4 = 5 * S 1024 0 + 1 then p3 else (if 5 * S 1024 0 + 4 = 5 * S 1024 0 then p2 else S 12 (5 * S 1024 0 + 4))) : Int) = (if 5 * S 1024 0 + 4 = 5 * S 1024 0 + 1 then p3 else (if 5 * S 1024 0 + 4 = 5 * S 1024 0 then p2 else S 12 (5 * S 1024 0 + 4))) := if_neg la_nodeR_37
    have e40_ : (if 5 * S 1024 0 + 4 = 5 * S 1024 0 + 1 then p3 else (if 5 * S 1024 0 + 4 = 5 * S 1024 0 then p2 else S 12 (5 * S 1024 0 + 4)) : Int) = (if 5 * S 1024 0 + 4 = 5 * S 1024 0 then p2 else S 12 (5 * S 1024 0 + 4)) := if_neg la_nodeR_38
    exact e37_
  refine ⟨e29_, ?_⟩
  refine ⟨?_, ?_⟩
  · skip
    have e41_ : (if S 1024 0 = S 1024 0 then 0 else S 14 (S 1024 0) : Int) = 0 := if_pos la_nodeR_12
    exact e41_
  refine ⟨?_, ?_⟩
  · skip
    intro n
    intro h42_
    have e43_ : (if n = S 1024 0 then 0 else S 14 n : Int) = S 14 n := if_neg (la_nodeR_39 h42_)
    exact e43_
  refine ⟨?_, ?_⟩
  · skip
    intro h44_
    refine ⟨(sm_WF_put h44_), ?_⟩
    exact (sm_WF_0 h44_ (S 1024 0) la_nodeR_40)
  refine ⟨(sm_PX_up_wo (sm_PX_up_wo (sm_PX_up_wo (sm_PX_up_wo (sm_PX_up_ne (sm_PX_up_wo (sm_PX_up_so sm_PX_rf (Int.le_refl _)) (Int.le_refl _)) (Int.le_refl _)) la_nodeR_41) la_nodeR_42) la_nodeR_43) la_nodeR_44), ?_⟩
  refine ⟨?_, ?_⟩
  · skip
    have e45_ : (if S 1024 0 = S 1024 0 then S 1043 0 else S 1100019 (S 1024 0) : Int) = S 1043 0 := if_pos la_nodeR_12
    exact e45_
  refine ⟨(sm_F1_up sm_F1_rf (Int.le_refl _)), ?_⟩
  refine ⟨?_, ?_⟩
  · skip
    intro h46_
    exact (sm_WG_G h46_ rfl)
  refine ⟨?_, ?_⟩
  · skip
    intro h47_
    exact (sm_FT_ns (sm_FT_up_ne (sm_FT_up_wo (sm_FT_up_wo (sm_FT_up_wo (sm_FT_up_wo (sm_FT_up_wo (sm_FT_up_so (sm_FT_up_G h47_ (Int.le_refl _) h6_) (Int.le_refl _)) (Int.le_refl _)) la_nodeR_41) la_nodeR_42) la_nodeR_43) la_nodeR_44) (Int.le_refl _)) la_nodeR_45 (Int.le_refl _) id (Int.le_refl _) (Int.le_refl _))
  refine ⟨e17_, ?_⟩
  refine ⟨(sm_F1_up sm_F1_rf (Int.le_refl _)), ?_⟩
  intro h48_
  have h49_ := (h12_ h48_)
  have h50_ := (h49_ la_nodeR_29)
  have h51_ := (h50_ (sm_F1_up sm_F1_rf (Int.le_refl _)))
  have h52_ := (h51_ (sm_F1_up (sm_F1_up (sm_F1_up (sm_F1_up (sm_F1_up sm_F1_rf (Int.le_refl _)) la_nodeR_41) la_nodeR_42) la_nodeR_43) la_nodeR_44))
  have h53_ := (h52_ (sm_F1_up sm_F1_rf (Int.le_refl _)))
  have h54_ := (h53_ (sm_F1_up sm_F1_rf (Int.le_refl _)))
  have h55_ := (h54_ e19_)
  have h56_ := (h55_ (la_nodeR_30 e14_ e21_ e28_ e30_ e33_))
  have h57_ := (h56_ (la_nodeR_31 e16_ e25_ e31_ e34_))
  have h58_ := (h57_ (la_nodeR_32 e13_ e23_ e26_))
  have h59_ := (h58_ (la_nodeR_33 e24_ e27_))
  have h60_ := (h59_ e29_)
  have h61_ := (h60_ e17_)
  have h62_ := (h61_ (la_nodeR_46 h8_ h9_))
  intro h63_
  have h64_ := (h62_ h63_)
  intro h65_
  have h66_ := (h64_ h65_)
  intro h67_
  have h68_ := (h66_ h67_)
  intro h69_
  have h70_ := (h68_ h69_)
  intro h71_
  have h72_ := (h70_ h71_)
  intro h73_
  have h74_ := (h72_ h73_)
  intro h75_
  have h76_ := (h74_ h75_)
  exact h76_
set_option maxRecDepth 8000 in
set_option maxHeartbeats 2000000 in
theorem t_nodeR : ∀ (p1 : Int) (p2 : Int) (p3 : Int) (p4 : Int) (S : sv_S), sm_ok S → sv_R p1 → sv_R p2 → sv_R p3 → sv_R p4 → (0 ≤ (S 1024 0) ∧ (S 1024 0) < 12000 ∧ -1 ≤ (S 1100036 0) ∧ (S 1100036 0) < (S 1024 0)) → sv_T sm_XS sm_cs sm_L sm_sh 0 (q_nodeR p1 p2 p3 p4 S) 33 0 (lv_args 0 [.ref 0, sv_I p1, sv_I p2, sv_I p3, sv_I p4]) [] S := by
  intro p1 p2 p3 p4 S hok hp1 hp2 hp3 hp4 hpre
  have h := f_nodeR p1 p2 p3 p4 S hok hp1 hp2 hp3 hp4 hpre
  have hM := sm_h33
  show sv_T sm_XS sm_cs sm_L sm_sh 0 (q_nodeR p1 p2 p3 p4 S) 33 0 [(0, .ref 0), (1, sv_I p1), (2, sv_I p2), (3, sv_I p3), (4, sv_I p4)] [] S
  refine sv_aload_n hM dX12_node_0 rfl rfl ?_
  have k1 : sv_R (S 1024 0) := sm_okI hok sm_r1024 0
  have h := h k1
  refine sv_getI hM dX12_node_1 sm_fl_421 (sm_a0 _) sm_k24 rfl (x := (S 1024 0)) rfl ?_
  refine sv_istore hM dX12_node_4 (by decide) rfl ?_
  show sv_T sm_XS sm_cs sm_L sm_sh 0 (q_nodeR p1 p2 p3 p4 S) 33 6 [(0, .ref 0), (1, sv_I p1), (2, sv_I p2), (3, sv_I p3), (4, sv_I p4), (5, sv_I (S 1024 0))] [] S
  refine sv_aload_n hM dX12_node_6 rfl rfl ?_
  refine sv_dupA hM dX12_node_7 rfl ?_
  refine sv_getI hM dX12_node_8 sm_fl_421 (sm_a0 _) sm_k24 rfl (x := (S 1024 0)) rfl ?_
  refine sv_iconst (d := (1 : Int)) hM dX12_node_11 rfl rfl ?_
  refine sv_iadd hM dX12_node_12 rfl ?_
  obtain ⟨o2, h⟩ := h
  refine sv_putI sm_X hM dX12_node_13 sm_fp_421 (sm_a0 _) sm_q24 (Or.inl rfl) rfl rfl rfl rfl ?_
  have ok3 : sm_ok (sv_up S 1024 0 ((S 1024 0) + (1 : Int))) := sm_upI hok sm_r1024 o2
  have md4 : sv_mod [1024, 11, 12, 13, 14, 1100019, 1100035] S (sv_up S 1024 0 ((S 1024 0) + (1 : Int))) := sv_mod.up sv_mod.rf (by decide)
  refine sv_aload_n hM dX12_node_16 rfl rfl ?_
  refine sv_getA hM dX12_node_17 sm_fl_42 (sm_a0 _) sm_k25 rfl ?_
  refine sv_iload hM dX12_node_20 rfl rfl ?_
  refine sv_iload_n hM dX12_node_22 rfl rfl ?_
  obtain ⟨o5, h⟩ := h
  refine sv_iast sm_X hM dX12_node_23 (sm_a11 _) (by decide) o5.1 o5.2 rfl ?_
  have ok6 : sm_ok (sv_up (sv_up S 1024 0 ((S 1024 0) + (1 : Int))) 11 (S 1024 0) p1) := sm_upI ok3 sm_r11 hp1
  have md7 : sv_mod [1024, 11, 12, 13, 14, 1100019, 1100035] S (sv_up (sv_up S 1024 0 ((S 1024 0) + (1 : Int))) 11 (S 1024 0) p1) := sv_mod.up md4 (by decide)
  refine sv_aload_n hM dX12_node_24 rfl rfl ?_
  refine sv_getA hM dX12_node_25 sm_fl_46 (sm_a0 _) sm_k26 rfl ?_
  refine sv_iconst (d := (5 : Int)) hM dX12_node_28 rfl rfl ?_
  refine sv_iload hM dX12_node_29 rfl rfl ?_
  refine sv_imul hM dX12_node_31 rfl ?_
  refine sv_iload_n hM dX12_node_32 rfl rfl ?_
  obtain ⟨o8, h⟩ := h
  refine sv_iast sm_X hM dX12_node_33 (sm_a12 _) (by decide) o8.1 o8.2 rfl ?_
  have ok9 : sm_ok (sv_up (sv_up (sv_up S 1024 0 ((S 1024 0) + (1 : Int))) 11 (S 1024 0) p1) 12 ((5 : Int) * (S 1024 0)) p2) := sm_upI ok6 sm_r12 hp2
  have md10 : sv_mod [1024, 11, 12, 13, 14, 1100019, 1100035] S (sv_up (sv_up (sv_up S 1024 0 ((S 1024 0) + (1 : Int))) 11 (S 1024 0) p1) 12 ((5 : Int) * (S 1024 0)) p2) := sv_mod.up md7 (by decide)
  refine sv_aload_n hM dX12_node_34 rfl rfl ?_
  refine sv_getA hM dX12_node_35 sm_fl_46 (sm_a0 _) sm_k26 rfl ?_
  refine sv_iconst (d := (5 : Int)) hM dX12_node_38 rfl rfl ?_
  refine sv_iload hM dX12_node_39 rfl rfl ?_
  refine sv_imul hM dX12_node_41 rfl ?_
  refine sv_iconst (d := (1 : Int)) hM dX12_node_42 rfl rfl ?_
  refine sv_iadd hM dX12_node_43 rfl ?_
  refine sv_iload_n hM dX12_node_44 rfl rfl ?_
  obtain ⟨o11, h⟩ := h
  refine sv_iast sm_X hM dX12_node_45 (sm_a12 _) (by decide) o11.1 o11.2 rfl ?_
  have ok12 : sm_ok (sv_up (sv_up (sv_up (sv_up S 1024 0 ((S 1024 0) + (1 : Int))) 11 (S 1024 0) p1) 12 ((5 : Int) * (S 1024 0)) p2) 12 (((5 : Int) * (S 1024 0)) + (1 : Int)) p3) := sm_upI ok9 sm_r12 hp3
  have md13 : sv_mod [1024, 11, 12, 13, 14, 1100019, 1100035] S (sv_up (sv_up (sv_up (sv_up S 1024 0 ((S 1024 0) + (1 : Int))) 11 (S 1024 0) p1) 12 ((5 : Int) * (S 1024 0)) p2) 12 (((5 : Int) * (S 1024 0)) + (1 : Int)) p3) := sv_mod.up md10 (by decide)
  refine sv_aload_n hM dX12_node_46 rfl rfl ?_
  refine sv_getA hM dX12_node_47 sm_fl_46 (sm_a0 _) sm_k26 rfl ?_
  refine sv_iconst (d := (5 : Int)) hM dX12_node_50 rfl rfl ?_
  refine sv_iload hM dX12_node_51 rfl rfl ?_
  refine sv_imul hM dX12_node_53 rfl ?_
  refine sv_iconst (d := (2 : Int)) hM dX12_node_54 rfl rfl ?_
  refine sv_iadd hM dX12_node_55 rfl ?_
  refine sv_iload hM dX12_node_56 rfl rfl ?_
  obtain ⟨o14, h⟩ := h
  refine sv_iast sm_X hM dX12_node_58 (sm_a12 _) (by decide) o14.1 o14.2 rfl ?_
  have ok15 : sm_ok (sv_up (sv_up (sv_up (sv_up (sv_up S 1024 0 ((S 1024 0) + (1 : Int))) 11 (S 1024 0) p1) 12 ((5 : Int) * (S 1024 0)) p2) 12 (((5 : Int) * (S 1024 0)) + (1 : Int)) p3) 12 (((5 : Int) * (S 1024 0)) + (2 : Int)) p4) := sm_upI ok12 sm_r12 hp4
  have md16 : sv_mod [1024, 11, 12, 13, 14, 1100019, 1100035] S (sv_up (sv_up (sv_up (sv_up (sv_up S 1024 0 ((S 1024 0) + (1 : Int))) 11 (S 1024 0) p1) 12 ((5 : Int) * (S 1024 0)) p2) 12 (((5 : Int) * (S 1024 0)) + (1 : Int)) p3) 12 (((5 : Int) * (S 1024 0)) + (2 : Int)) p4) := sv_mod.up md13 (by decide)
  refine sv_aload_n hM dX12_node_59 rfl rfl ?_
  refine sv_getA hM dX12_node_60 sm_fl_46 (sm_a0 _) sm_k26 rfl ?_
  refine sv_iconst (d := (5 : Int)) hM dX12_node_63 rfl rfl ?_
  refine sv_iload hM dX12_node_64 rfl rfl ?_
  refine sv_imul hM dX12_node_66 rfl ?_
  refine sv_iconst (d := (3 : Int)) hM dX12_node_67 rfl rfl ?_
  refine sv_iadd hM dX12_node_68 rfl ?_
  refine sv_iconst (d := (-1 : Int)) hM dX12_node_69 rfl rfl ?_
  obtain ⟨o17, h⟩ := h
  refine sv_iast sm_X hM dX12_node_70 (sm_a12 _) (by decide) o17.1 o17.2 rfl ?_
  have ok18 : sm_ok (sv_up (sv_up (sv_up (sv_up (sv_up (sv_up S 1024 0 ((S 1024 0) + (1 : Int))) 11 (S 1024 0) p1) 12 ((5 : Int) * (S 1024 0)) p2) 12 (((5 : Int) * (S 1024 0)) + (1 : Int)) p3) 12 (((5 : Int) * (S 1024 0)) + (2 : Int)) p4) 12 (((5 : Int) * (S 1024 0)) + (3 : Int)) (-1 : Int)) := sm_upI ok15 sm_r12 (⟨by decide, by decide⟩ : sv_R (-1 : Int))
  have md19 : sv_mod [1024, 11, 12, 13, 14, 1100019, 1100035] S (sv_up (sv_up (sv_up (sv_up (sv_up (sv_up S 1024 0 ((S 1024 0) + (1 : Int))) 11 (S 1024 0) p1) 12 ((5 : Int) * (S 1024 0)) p2) 12 (((5 : Int) * (S 1024 0)) + (1 : Int)) p3) 12 (((5 : Int) * (S 1024 0)) + (2 : Int)) p4) 12 (((5 : Int) * (S 1024 0)) + (3 : Int)) (-1 : Int)) := sv_mod.up md16 (by decide)
  refine sv_aload_n hM dX12_node_71 rfl rfl ?_
  refine sv_getA hM dX12_node_72 sm_fl_46 (sm_a0 _) sm_k26 rfl ?_
  refine sv_iconst (d := (5 : Int)) hM dX12_node_75 rfl rfl ?_
  refine sv_iload hM dX12_node_76 rfl rfl ?_
  refine sv_imul hM dX12_node_78 rfl ?_
  refine sv_iconst (d := (4 : Int)) hM dX12_node_79 rfl rfl ?_
  refine sv_iadd hM dX12_node_80 rfl ?_
  refine sv_iconst (d := (-1 : Int)) hM dX12_node_81 rfl rfl ?_
  obtain ⟨o20, h⟩ := h
  refine sv_iast sm_X hM dX12_node_82 (sm_a12 _) (by decide) o20.1 o20.2 rfl ?_
  have ok21 : sm_ok (sv_up (sv_up (sv_up (sv_up (sv_up (sv_up (sv_up S 1024 0 ((S 1024 0) + (1 : Int))) 11 (S 1024 0) p1) 12 ((5 : Int) * (S 1024 0)) p2) 12 (((5 : Int) * (S 1024 0)) + (1 : Int)) p3) 12 (((5 : Int) * (S 1024 0)) + (2 : Int)) p4) 12 (((5 : Int) * (S 1024 0)) + (3 : Int)) (-1 : Int)) 12 (((5 : Int) * (S 1024 0)) + (4 : Int)) (-1 : Int)) := sm_upI ok18 sm_r12 (⟨by decide, by decide⟩ : sv_R (-1 : Int))
  have md22 : sv_mod [1024, 11, 12, 13, 14, 1100019, 1100035] S (sv_up (sv_up (sv_up (sv_up (sv_up (sv_up (sv_up S 1024 0 ((S 1024 0) + (1 : Int))) 11 (S 1024 0) p1) 12 ((5 : Int) * (S 1024 0)) p2) 12 (((5 : Int) * (S 1024 0)) + (1 : Int)) p3) 12 (((5 : Int) * (S 1024 0)) + (2 : Int)) p4) 12 (((5 : Int) * (S 1024 0)) + (3 : Int)) (-1 : Int)) 12 (((5 : Int) * (S 1024 0)) + (4 : Int)) (-1 : Int)) := sv_mod.up md19 (by decide)
  refine sv_aload_n hM dX12_node_83 rfl rfl ?_
  refine sv_getA hM dX12_node_84 sm_fl_49 (sm_a0 _) sm_k27 rfl ?_
  refine sv_iload hM dX12_node_87 rfl rfl ?_
  refine sv_iconst (d := (-1 : Int)) hM dX12_node_89 rfl rfl ?_
  refine sv_iast sm_X hM dX12_node_90 (sm_a13 _) (by decide) o5.1 o5.2 rfl ?_
  have ok23 : sm_ok (sv_up (sv_up (sv_up (sv_up (sv_up (sv_up (sv_up (sv_up S 1024 0 ((S 1024 0) + (1 : Int))) 11 (S 1024 0) p1) 12 ((5 : Int) * (S 1024 0)) p2) 12 (((5 : Int) * (S 1024 0)) + (1 : Int)) p3) 12 (((5 : Int) * (S 1024 0)) + (2 : Int)) p4) 12 (((5 : Int) * (S 1024 0)) + (3 : Int)) (-1 : Int)) 12 (((5 : Int) * (S 1024 0)) + (4 : Int)) (-1 : Int)) 13 (S 1024 0) (-1 : Int)) := sm_upI ok21 sm_r13 (⟨by decide, by decide⟩ : sv_R (-1 : Int))
  have md24 : sv_mod [1024, 11, 12, 13, 14, 1100019, 1100035] S (sv_up (sv_up (sv_up (sv_up (sv_up (sv_up (sv_up (sv_up S 1024 0 ((S 1024 0) + (1 : Int))) 11 (S 1024 0) p1) 12 ((5 : Int) * (S 1024 0)) p2) 12 (((5 : Int) * (S 1024 0)) + (1 : Int)) p3) 12 (((5 : Int) * (S 1024 0)) + (2 : Int)) p4) 12 (((5 : Int) * (S 1024 0)) + (3 : Int)) (-1 : Int)) 12 (((5 : Int) * (S 1024 0)) + (4 : Int)) (-1 : Int)) 13 (S 1024 0) (-1 : Int)) := sv_mod.up md22 (by decide)
  refine sv_aload_n hM dX12_node_91 rfl rfl ?_
  refine sv_getA hM dX12_node_92 sm_fl_52 (sm_a0 _) sm_k28 rfl ?_
  refine sv_iload hM dX12_node_95 rfl rfl ?_
  refine sv_iconst (d := (0 : Int)) hM dX12_node_97 rfl rfl ?_
  refine sv_zast sm_X hM dX12_node_98 (sm_a14 _) (by decide) o5.1 o5.2 (sv_nnZ (⟨by decide, by decide⟩ : 0 ≤ (0 : Int) ∧ (0 : Int) ≤ 1)) rfl ?_
  have ok25 : sm_ok (sv_up (sv_up (sv_up (sv_up (sv_up (sv_up (sv_up (sv_up (sv_up S 1024 0 ((S 1024 0) + (1 : Int))) 11 (S 1024 0) p1) 12 ((5 : Int) * (S 1024 0)) p2) 12 (((5 : Int) * (S 1024 0)) + (1 : Int)) p3) 12 (((5 : Int) * (S 1024 0)) + (2 : Int)) p4) 12 (((5 : Int) * (S 1024 0)) + (3 : Int)) (-1 : Int)) 12 (((5 : Int) * (S 1024 0)) + (4 : Int)) (-1 : Int)) 13 (S 1024 0) (-1 : Int)) 14 (S 1024 0) (0 : Int)) := sm_upZ ok23 sm_r14 (⟨by decide, by decide⟩ : 0 ≤ (0 : Int) ∧ (0 : Int) ≤ 1)
  have md26 : sv_mod [1024, 11, 12, 13, 14, 1100019, 1100035] S (sv_up (sv_up (sv_up (sv_up (sv_up (sv_up (sv_up (sv_up (sv_up S 1024 0 ((S 1024 0) + (1 : Int))) 11 (S 1024 0) p1) 12 ((5 : Int) * (S 1024 0)) p2) 12 (((5 : Int) * (S 1024 0)) + (1 : Int)) p3) 12 (((5 : Int) * (S 1024 0)) + (2 : Int)) p4) 12 (((5 : Int) * (S 1024 0)) + (3 : Int)) (-1 : Int)) 12 (((5 : Int) * (S 1024 0)) + (4 : Int)) (-1 : Int)) 13 (S 1024 0) (-1 : Int)) 14 (S 1024 0) (0 : Int)) := sv_mod.up md24 (by decide)
  refine sv_iload hM dX12_node_99 rfl rfl ?_
  have k27 : sv_R (S 1043 0) := sm_okI ok25 sm_r1043 0
  have h := h k27
  refine sv_ghost sm_X 1100019 (S 1024 0) (S 1043 0) (by decide) ?_
  have ok28 : sm_ok (sv_up (sv_up (sv_up (sv_up (sv_up (sv_up (sv_up (sv_up (sv_up (sv_up S 1024 0 ((S 1024 0) + (1 : Int))) 11 (S 1024 0) p1) 12 ((5 : Int) * (S 1024 0)) p2) 12 (((5 : Int) * (S 1024 0)) + (1 : Int)) p3) 12 (((5 : Int) * (S 1024 0)) + (2 : Int)) p4) 12 (((5 : Int) * (S 1024 0)) + (3 : Int)) (-1 : Int)) 12 (((5 : Int) * (S 1024 0)) + (4 : Int)) (-1 : Int)) 13 (S 1024 0) (-1 : Int)) 14 (S 1024 0) (0 : Int)) 1100019 (S 1024 0) (S 1043 0)) := sm_upI ok25 sm_r1100019 k27
  have md29 : sv_mod [1024, 11, 12, 13, 14, 1100019, 1100035] S (sv_up (sv_up (sv_up (sv_up (sv_up (sv_up (sv_up (sv_up (sv_up (sv_up S 1024 0 ((S 1024 0) + (1 : Int))) 11 (S 1024 0) p1) 12 ((5 : Int) * (S 1024 0)) p2) 12 (((5 : Int) * (S 1024 0)) + (1 : Int)) p3) 12 (((5 : Int) * (S 1024 0)) + (2 : Int)) p4) 12 (((5 : Int) * (S 1024 0)) + (3 : Int)) (-1 : Int)) 12 (((5 : Int) * (S 1024 0)) + (4 : Int)) (-1 : Int)) 13 (S 1024 0) (-1 : Int)) 14 (S 1024 0) (0 : Int)) 1100019 (S 1024 0) (S 1043 0)) := sv_mod.up md26 (by decide)
  obtain ⟨o30, h⟩ := h
  refine sv_ghost sm_X 1100035 (S 1024 0) ((S 1100036 0)) (by decide) ?_
  have ok31 : sm_ok (sv_up (sv_up (sv_up (sv_up (sv_up (sv_up (sv_up (sv_up (sv_up (sv_up (sv_up S 1024 0 ((S 1024 0) + (1 : Int))) 11 (S 1024 0) p1) 12 ((5 : Int) * (S 1024 0)) p2) 12 (((5 : Int) * (S 1024 0)) + (1 : Int)) p3) 12 (((5 : Int) * (S 1024 0)) + (2 : Int)) p4) 12 (((5 : Int) * (S 1024 0)) + (3 : Int)) (-1 : Int)) 12 (((5 : Int) * (S 1024 0)) + (4 : Int)) (-1 : Int)) 13 (S 1024 0) (-1 : Int)) 14 (S 1024 0) (0 : Int)) 1100019 (S 1024 0) (S 1043 0)) 1100035 (S 1024 0) ((S 1100036 0))) := sm_upI ok28 sm_r1100035 o30
  have md32 : sv_mod [1024, 11, 12, 13, 14, 1100019, 1100035] S (sv_up (sv_up (sv_up (sv_up (sv_up (sv_up (sv_up (sv_up (sv_up (sv_up (sv_up S 1024 0 ((S 1024 0) + (1 : Int))) 11 (S 1024 0) p1) 12 ((5 : Int) * (S 1024 0)) p2) 12 (((5 : Int) * (S 1024 0)) + (1 : Int)) p3) 12 (((5 : Int) * (S 1024 0)) + (2 : Int)) p4) 12 (((5 : Int) * (S 1024 0)) + (3 : Int)) (-1 : Int)) 12 (((5 : Int) * (S 1024 0)) + (4 : Int)) (-1 : Int)) 13 (S 1024 0) (-1 : Int)) 14 (S 1024 0) (0 : Int)) 1100019 (S 1024 0) (S 1043 0)) 1100035 (S 1024 0) ((S 1100036 0))) := sv_mod.up md29 (by decide)
  have k33 : (sm_RG (S 11) (S 12) (S 13) (S 1100035) (S 1024 0) → ((S 1024 0) + (1 : Int)) = (S 1024 0) + 1 → sm_F1 (S 11) (fun i' : Int => if i' = (S 1024 0) then p1 else (S 11) i') (S 1024 0) → sm_F1 (S 12) (fun i' : Int => if i' = (((5 : Int) * (S 1024 0)) + (4 : Int)) then (-1 : Int) else (fun i' : Int => if i' = (((5 : Int) * (S 1024 0)) + (3 : Int)) then (-1 : Int) else (fun i' : Int => if i' = (((5 : Int) * (S 1024 0)) + (2 : Int)) then p4 else (fun i' : Int => if i' = (((5 : Int) * (S 1024 0)) + (1 : Int)) then p3 else (fun i' : Int => if i' = ((5 : Int) * (S 1024 0)) then p2 else (S 12) i') i') i') i') i') (5 * (S 1024 0)) → sm_F1 (S 13) (fun i' : Int => if i' = (S 1024 0) then (-1 : Int) else (S 13) i') (S 1024 0) → sm_F1 (S 1100035) (fun i' : Int => if i' = (S 1024 0) then ((S 1100036 0)) else (S 1100035) i') (S 1024 0) → (if (S 1024 0) = (S 1024 0) then p1 else (S 11 (S 1024 0))) = p1 → (if (5 * (S 1024 0)) = (((5 : Int) * (S 1024 0)) + (4 : Int)) then (-1 : Int) else (if (5 * (S 1024 0)) = (((5 : Int) * (S 1024 0)) + (3 : Int)) then (-1 : Int) else (if (5 * (S 1024 0)) = (((5 : Int) * (S 1024 0)) + (2 : Int)) then p4 else (if (5 * (S 1024 0)) = (((5 : Int) * (S 1024 0)) + (1 : Int)) then p3 else (if (5 * (S 1024 0)) = ((5 : Int) * (S 1024 0)) then p2 else (S 12 (5 * (S 1024 0)))))))) = p2 → (if (5 * (S 1024 0) + 1) = (((5 : Int) * (S 1024 0)) + (4 : Int)) then (-1 : Int) else (if (5 * (S 1024 0) + 1) = (((5 : Int) * (S 1024 0)) + (3 : Int)) then (-1 : Int) else (if (5 * (S 1024 0) + 1) = (((5 : Int) * (S 1024 0)) + (2 : Int)) then p4 else (if (5 * (S 1024 0) + 1) = (((5 : Int) * (S 1024 0)) + (1 : Int)) then p3 else (if (5 * (S 1024 0) + 1) = ((5 : Int) * (S 1024 0)) then p2 else (S 12 (5 * (S 1024 0) + 1))))))) = p3 → (if (5 * (S 1024 0) + 2) = (((5 : Int) * (S 1024 0)) + (4 : Int)) then (-1 : Int) else (if (5 * (S 1024 0) + 2) = (((5 : Int) * (S 1024 0)) + (3 : Int)) then (-1 : Int) else (if (5 * (S 1024 0) + 2) = (((5 : Int) * (S 1024 0)) + (2 : Int)) then p4 else (if (5 * (S 1024 0) + 2) = (((5 : Int) * (S 1024 0)) + (1 : Int)) then p3 else (if (5 * (S 1024 0) + 2) = ((5 : Int) * (S 1024 0)) then p2 else (S 12 (5 * (S 1024 0) + 2))))))) = p4 → (if (5 * (S 1024 0) + 3) = (((5 : Int) * (S 1024 0)) + (4 : Int)) then (-1 : Int) else (if (5 * (S 1024 0) + 3) = (((5 : Int) * (S 1024 0)) + (3 : Int)) then (-1 : Int) else (if (5 * (S 1024 0) + 3) = (((5 : Int) * (S 1024 0)) + (2 : Int)) then p4 else (if (5 * (S 1024 0) + 3) = (((5 : Int) * (S 1024 0)) + (1 : Int)) then p3 else (if (5 * (S 1024 0) + 3) = ((5 : Int) * (S 1024 0)) then p2 else (S 12 (5 * (S 1024 0) + 3))))))) = -1 → (if (S 1024 0) = (S 1024 0) then (-1 : Int) else (S 13 (S 1024 0))) = -1 → (if (S 1024 0) = (S 1024 0) then ((S 1100036 0)) else (S 1100035 (S 1024 0))) = (S 1100036 0) → -1 ≤ (S 1100036 0) ∧ (S 1100036 0) < (S 1024 0) → (p1 = 20 → (p2 = -1 ∨ (0 ≤ p2 ∧ p2 < (S 1024 0) ∧ (S 1100035 p2) = (S 1100036 0)))) → (p1 = 24 → (p3 = -1 ∨ (0 ≤ p3 ∧ p3 < (S 1024 0) ∧ (S 1100035 p3) = (S 1100036 0))) ∧ (p4 = -1 ∨ (0 ≤ p4 ∧ p4 < (S 1024 0) ∧ (S 1100035 p4) = (S 1100036 0)))) → (p1 = 25 ∨ p1 = 26 → (p3 = -1 ∨ (0 ≤ p3 ∧ p3 < (S 1024 0) ∧ (S 1100035 p3) = (S 1100036 0)))) → (p1 = 27 → (p2 = -1 ∨ (0 ≤ p2 ∧ p2 < (S 1024 0) ∧ (S 1100035 p2) = (S 1100036 0)))) → (p1 = 28 → (p4 = -1 ∨ (0 ≤ p4 ∧ p4 < (S 1024 0) ∧ (S 1100035 p4) = (S 1100036 0)))) → (p1 = 33 → p2 = -1 ∧ p4 = -1) → (p1 = 34 ∨ p1 = 35 → p3 = -1) → sm_RG (fun i' : Int => if i' = (S 1024 0) then p1 else (S 11) i') (fun i' : Int => if i' = (((5 : Int) * (S 1024 0)) + (4 : Int)) then (-1 : Int) else (fun i' : Int => if i' = (((5 : Int) * (S 1024 0)) + (3 : Int)) then (-1 : Int) else (fun i' : Int => if i' = (((5 : Int) * (S 1024 0)) + (2 : Int)) then p4 else (fun i' : Int => if i' = (((5 : Int) * (S 1024 0)) + (1 : Int)) then p3 else (fun i' : Int => if i' = ((5 : Int) * (S 1024 0)) then p2 else (S 12) i') i') i') i') i') (fun i' : Int => if i' = (S 1024 0) then (-1 : Int) else (S 13) i') (fun i' : Int => if i' = (S 1024 0) then ((S 1100036 0)) else (S 1100035) i') ((S 1024 0) + (1 : Int))) := fun a0 a1 a2 a3 a4 a5 a6 a7 a8 a9 a10 a11 a12 a13 a14 a15 a16 a17 a18 a19 a20 => sm_RG_node a0 a1 a2 a3 a4 a5 a6 a7 a8 a9 a10 a11 a12 a13 a14 a15 a16 a17 a18 a19 a20
  have h := h k33
  exact sv_iret hM dX12_node_101 rfl rfl ⟨(S 1024 0), rfl, k1, ok31, md32, h⟩
def q_addR (p1 : Int) (S : sv_S) : Option Value → sv_S → Prop := fun v S' => v = none ∧ sm_ok S' ∧ sv_mod [15, 16, 13] S S' ∧ ((S' 16 ((S' 1031 0) - 1)) = p1 ∧ ((S 15 ((S' 1031 0) - 1)) = -1 → (S' 15 ((S' 1031 0) - 1)) = p1) ∧ (¬ (S 15 ((S' 1031 0) - 1)) = -1 → (S' 15 ((S' 1031 0) - 1)) = (S 15 ((S' 1031 0) - 1))) ∧ (sm_WF (S 11) (S 12) (S 13) (S 1100001) (S 1100002) (S 1100005) (S 1100003) (S 1100004) (S 1024 0) (S 1007 0) (S 1009 0) (sm_fn (S 1032 0) (S 21) (S 1043 0)) → ((S 15 ((S' 1031 0) - 1)) = -1 ∨ sm_lk (S 1100001) (S 1100002) (S 1100005) (S 1100003) (S 1100004) (S' 1024 0) ((S 16 ((S' 1031 0) - 1))) p1 ∨ p1 = -1) → sm_WF (S' 11) (S' 12) (S' 13) (S' 1100001) (S' 1100002) (S' 1100005) (S' 1100003) (S' 1100004) (S' 1024 0) (S' 1007 0) (S' 1009 0) (sm_fn (S' 1032 0) (S' 21) (S' 1043 0))) ∧ (sm_FT (S 11) (S 12) (S 13) (S 1100019) (S 17) (S 18) (S 21) (S 19) (S 20) (S 22) (S 1100016) (S 1024 0) (S 1007 0) (S 1009 0) (S 1032 0) (S 1032 0) → ((S 15 ((S' 1031 0) - 1)) = -1 ∨ ((S' 1100019 (S 16 ((S' 1031 0) - 1))) = (S' 1043 0) ∧ (S' 1100016 (S' 1043 0)) = 0)) → sm_FT (S' 11) (S' 12) (S' 13) (S' 1100019) (S' 17) (S' 18) (S' 21) (S' 19) (S' 20) (S' 22) (S' 1100016) (S' 1024 0) (S' 1007 0) (S' 1009 0) (S' 1032 0) (S' 1032 0)) ∧ sm_PX (S 11) (S 12) (S 13) (S 1100001) (S 1100002) (S 1100005) (S 1100003) (S 1100004) (S' 11) (S' 12) (S' 13) (S' 1100001) (S' 1100002) (S' 1100005) (S' 1100003) (S' 1100004) (if (S 15 ((S' 1031 0) - 1)) = -1 then (S' 1024 0) else (S 16 ((S' 1031 0) - 1))) ∧ sm_KL (S 15) (S 16) (S' 15) (S' 16) ((S' 1031 0) - 1) ∧ (sm_RG (S 11) (S 12) (S 13) (S 1100035) (S 1024 0) → ((S 15 ((S' 1031 0) - 1)) = -1 ∨ p1 = -1 ∨ (0 ≤ p1 ∧ p1 < (S' 1024 0) ∧ (S' 1100035 p1) = (S' 1100035 (S 16 ((S' 1031 0) - 1))))) → ((S 15 ((S' 1031 0) - 1)) = -1 ∨ ¬ (S' 11 (S 16 ((S' 1031 0) - 1))) = 35 ∨ p1 = -1 ∨ (S' 11 p1) = 35) → sm_RG (S' 11) (S' 12) (S' 13) (S' 1100035) (S' 1024 0)))
theorem la_addR_0 {x0 : Int} (h0 : 1 ≤ x0) (h1 : x0 ≤ 200) : 0 ≤ x0 - 1 ∧ x0 - 1 < 200 := by omega
theorem la_addR_1 {x0 : Int} (h0 : 0 ≤ x0) (h1 : x0 < 12000) : 0 ≤ x0 ∧ x0 < 12000 := by omega
theorem la_addR_2 {x0 : Int} : x0 - 1 = x0 - 1 := by omega
theorem la_addR_3 {x0 x1 : Int} (h0 : ¬ x0 = (-1)) : x0 = (-1) → x0 = x1 := by omega
theorem la_addR_4 {x0 : Int} : ¬ x0 = (-1) → x0 = x0 := by omega
theorem la_addR_5 {x0 x1 : Int} (h0 : x0 = x1) : x0 ≤ x1 := by omega
theorem la_addR_6 {x0 x1 x2 x3 x4 x5 : Int} (h0 : x0 = (-1) ∨ 0 ≤ x0 ∧ x0 < x1 ∧ x2 = x3) (h1 : ¬ x4 = 35 ∨ x0 = (-1) ∨ x5 = 35) : x4 = 35 → x0 = (-1) ∨ x5 = 35 := by omega
theorem la_addR_7 {x0 x1 : Int} (h0 : ¬ ¬ x0 = (-1)) : ¬ x0 = (-1) → x1 = x0 := by omega
theorem la_addR_8 {x0 : Int} (h0 : ¬ ¬ x0 = (-1)) : x0 = (-1) := by omega
set_option maxHeartbeats 2000000 in
theorem f_addR : ∀ (p1 : Int) (S : sv_S), sm_ok S → sv_R p1 → (1 ≤ (S 1031 0) ∧ (S 1031 0) ≤ 200 ∧ (¬ (S 15 ((S 1031 0) - 1)) = -1 → 0 ≤ (S 16 ((S 1031 0) - 1)) ∧ (S 16 ((S 1031 0) - 1)) < 12000)) → (sv_R (S 1031 0) → (0 ≤ ((S 1031 0) - (1 : Int)) ∧ ((S 1031 0) - (1 : Int)) < 200) ∧ (sv_R (S 15 ((S 1031 0) - (1 : Int))) → (((¬ (S 15 ((S 1031 0) - (1 : Int))) = (-1 : Int)) → (sv_R (S 16 ((S 1031 0) - (1 : Int))) → (0 ≤ (S 16 ((S 1031 0) - (1 : Int))) ∧ (S 16 ((S 1031 0) - (1 : Int))) < 12000) ∧ ((if ((S 1031 0) - 1) = ((S 1031 0) - (1 : Int)) then p1 else (S 16 ((S 1031 0) - 1))) = p1 ∧ ((S 15 ((S 1031 0) - 1)) = -1 → (S 15 ((S 1031 0) - 1)) = p1) ∧ (¬ (S 15 ((S 1031 0) - 1)) = -1 → (S 15 ((S 1031 0) - 1)) = (S 15 ((S 1031 0) - 1))) ∧ (sm_WF (S 11) (S 12) (S 13) (S 1100001) (S 1100002) (S 1100005) (S 1100003) (S 1100004) (S 1024 0) (S 1007 0) (S 1009 0) (sm_fn (S 1032 0) (S 21) (S 1043 0)) → ((S 15 ((S 1031 0) - 1)) = -1 ∨ sm_lk (S 1100001) (S 1100002) (S 1100005) (S 1100003) (S 1100004) (S 1024 0) ((S 16 ((S 1031 0) - 1))) p1 ∨ p1 = -1) → sm_WF (S 11) (S 12) (fun i' : Int => if i' = (S 16 ((S 1031 0) - (1 : Int))) then p1 else (S 13) i') (S 1100001) (S 1100002) (S 1100005) (S 1100003) (S 1100004) (S 1024 0) (S 1007 0) (S 1009 0) (sm_fn (S 1032 0) (S 21) (S 1043 0))) ∧ (sm_FT (S 11) (S 12) (S 13) (S 1100019) (S 17) (S 18) (S 21) (S 19) (S 20) (S 22) (S 1100016) (S 1024 0) (S 1007 0) (S 1009 0) (S 1032 0) (S 1032 0) → ((S 15 ((S 1031 0) - 1)) = -1 ∨ ((S 1100019 (S 16 ((S 1031 0) - 1))) = (S 1043 0) ∧ (S 1100016 (S 1043 0)) = 0)) → sm_FT (S 11) (S 12) (fun i' : Int => if i' = (S 16 ((S 1031 0) - (1 : Int))) then p1 else (S 13) i') (S 1100019) (S 17) (S 18) (S 21) (S 19) (S 20) (S 22) (S 1100016) (S 1024 0) (S 1007 0) (S 1009 0) (S 1032 0) (S 1032 0)) ∧ sm_PX (S 11) (S 12) (S 13) (S 1100001) (S 1100002) (S 1100005) (S 1100003) (S 1100004) (S 11) (S 12) (fun i' : Int => if i' = (S 16 ((S 1031 0) - (1 : Int))) then p1 else (S 13) i') (S 1100001) (S 1100002) (S 1100005) (S 1100003) (S 1100004) (if (S 15 ((S 1031 0) - 1)) = -1 then (S 1024 0) else (S 16 ((S 1031 0) - 1))) ∧ sm_KL (S 15) (S 16) (S 15) (fun i' : Int => if i' = ((S 1031 0) - (1 : Int)) then p1 else (S 16) i') ((S 1031 0) - 1) ∧ (sm_RG (S 11) (S 12) (S 13) (S 1100035) (S 1024 0) → ((S 15 ((S 1031 0) - 1)) = -1 ∨ p1 = -1 ∨ (0 ≤ p1 ∧ p1 < (S 1024 0) ∧ (S 1100035 p1) = (S 1100035 (S 16 ((S 1031 0) - 1))))) → ((S 15 ((S 1031 0) - 1)) = -1 ∨ ¬ (S 11 (S 16 ((S 1031 0) - 1))) = 35 ∨ p1 = -1 ∨ (S 11 p1) = 35) → sm_RG (S 11) (S 12) (fun i' : Int => if i' = (S 16 ((S 1031 0) - (1 : Int))) then p1 else (S 13) i') (S 1100035) (S 1024 0))))) ∧ ((¬ (¬ (S 15 ((S 1031 0) - (1 : Int))) = (-1 : Int))) → ((if ((S 1031 0) - 1) = ((S 1031 0) - (1 : Int)) then p1 else (S 16 ((S 1031 0) - 1))) = p1 ∧ ((S 15 ((S 1031 0) - 1)) = -1 → (if ((S 1031 0) - 1) = ((S 1031 0) - (1 : Int)) then p1 else (S 15 ((S 1031 0) - 1))) = p1) ∧ (¬ (S 15 ((S 1031 0) - 1)) = -1 → (if ((S 1031 0) - 1) = ((S 1031 0) - (1 : Int)) then p1 else (S 15 ((S 1031 0) - 1))) = (S 15 ((S 1031 0) - 1))) ∧ (sm_WF (S 11) (S 12) (S 13) (S 1100001) (S 1100002) (S 1100005) (S 1100003) (S 1100004) (S 1024 0) (S 1007 0) (S 1009 0) (sm_fn (S 1032 0) (S 21) (S 1043 0)) → ((S 15 ((S 1031 0) - 1)) = -1 ∨ sm_lk (S 1100001) (S 1100002) (S 1100005) (S 1100003) (S 1100004) (S 1024 0) ((S 16 ((S 1031 0) - 1))) p1 ∨ p1 = -1) → sm_WF (S 11) (S 12) (S 13) (S 1100001) (S 1100002) (S 1100005) (S 1100003) (S 1100004) (S 1024 0) (S 1007 0) (S 1009 0) (sm_fn (S 1032 0) (S 21) (S 1043 0))) ∧ (sm_FT (S 11) (S 12) (S 13) (S 1100019) (S 17) (S 18) (S 21) (S 19) (S 20) (S 22) (S 1100016) (S 1024 0) (S 1007 0) (S 1009 0) (S 1032 0) (S 1032 0) → ((S 15 ((S 1031 0) - 1)) = -1 ∨ ((S 1100019 (S 16 ((S 1031 0) - 1))) = (S 1043 0) ∧ (S 1100016 (S 1043 0)) = 0)) → sm_FT (S 11) (S 12) (S 13) (S 1100019) (S 17) (S 18) (S 21) (S 19) (S 20) (S 22) (S 1100016) (S 1024 0) (S 1007 0) (S 1009 0) (S 1032 0) (S 1032 0)) ∧ sm_PX (S 11) (S 12) (S 13) (S 1100001) (S 1100002) (S 1100005) (S 1100003) (S 1100004) (S 11) (S 12) (S 13) (S 1100001) (S 1100002) (S 1100005) (S 1100003) (S 1100004) (if (S 15 ((S 1031 0) - 1)) = -1 then (S 1024 0) else (S 16 ((S 1031 0) - 1))) ∧ sm_KL (S 15) (S 16) (fun i' : Int => if i' = ((S 1031 0) - (1 : Int)) then p1 else (S 15) i') (fun i' : Int => if i' = ((S 1031 0) - (1 : Int)) then p1 else (S 16) i') ((S 1031 0) - 1) ∧ (sm_RG (S 11) (S 12) (S 13) (S 1100035) (S 1024 0) → ((S 15 ((S 1031 0) - 1)) = -1 ∨ p1 = -1 ∨ (0 ≤ p1 ∧ p1 < (S 1024 0) ∧ (S 1100035 p1) = (S 1100035 (S 16 ((S 1031 0) - 1))))) → ((S 15 ((S 1031 0) - 1)) = -1 ∨ ¬ (S 11 (S 16 ((S 1031 0) - 1))) = 35 ∨ p1 = -1 ∨ (S 11 p1) = 35) → sm_RG (S 11) (S 12) (S 13) (S 1100035) (S 1024 0))))))) := by
  intro p1
  intro S
  intro h1_
  intro h2_
  rintro ⟨h3_, ⟨h4_, h5_⟩⟩
  intro h6_
  refine ⟨(la_addR_0 h3_ h4_), ?_⟩
  intro h7_
  refine ⟨?_, ?_⟩
  · skip
    intro h8_
    obtain ⟨h9_, h10_⟩ := (h5_ h8_)
    intro h11_
    refine ⟨(la_addR_1 h9_ h10_), ?_⟩
    refine ⟨?_, ?_⟩
    · skip
      have e12_ : (if S 1031 0 - 1 = S 1031 0 - 1 then p1 else S 16 (S 1031 0 - 1) : Int) = p1 := if_pos la_addR_2
      exact e12_
    refine ⟨(la_addR_3 h8_), ?_⟩
    refine ⟨la_addR_4, ?_⟩
    refine ⟨?_, ?_⟩
    · skip
      intro h13_
      intro h14_
      have h15_ := (h14_.resolve_left h8_)
      exact (sm_WF_addn (f := 0) h13_ (by decide) (Or.inr h15_))
    refine ⟨?_, ?_⟩
    · skip
      intro h16_
      intro h17_
      obtain ⟨h18_, h19_⟩ := (h17_.resolve_left h8_)
      exact (sm_FT_ns (sm_FT_ug_ne h16_ h18_ h19_) (Int.le_refl _) (Int.le_refl _) id (Int.le_refl _) (Int.le_refl _))
    refine ⟨?_, ?_⟩
    · skip
      have e20_ : (if S 15 (S 1031 0 - 1) = (-1) then S 1024 0 else S 16 (S 1031 0 - 1) : Int) = S 16 (S 1031 0 - 1) := if_neg h8_
      exact (sm_PX_up_ne sm_PX_rf (la_addR_5 e20_))
    refine ⟨(sm_KL_up_l sm_KL_rf (Int.le_refl _)), ?_⟩
    intro h21_
    intro h22_
    have h23_ := (h22_.resolve_left h8_)
    intro h24_
    have h25_ := (h24_.resolve_left h8_)
    exact (sm_RG_ne h21_ h23_ (la_addR_6 h23_ h25_))
  intro h26_
  refine ⟨?_, ?_⟩
  · skip
    have e27_ : (if S 1031 0 - 1 = S 1031 0 - 1 then p1 else S 16 (S 1031 0 - 1) : Int) = p1 := if_pos la_addR_2
    exact e27_
  refine ⟨?_, ?_⟩
  · skip
    intro h28_
    have e29_ : (if S 1031 0 - 1 = S 1031 0 - 1 then p1 else S 15 (S 1031 0 - 1) : Int) = p1 := if_pos la_addR_2
    exact e29_
  refine ⟨(la_addR_7 h26_), ?_⟩
  refine ⟨?_, ?_⟩
  · skip
    intro h30_
    intro h31_
    exact h30_
  refine ⟨?_, ?_⟩
  · skip
    intro h32_
    intro h33_
    exact h32_
  refine ⟨sm_PX_rf, ?_⟩
  refine ⟨(sm_KL_up_l (sm_KL_up_f sm_KL_rf (Int.le_refl _)) (Int.le_refl _)), ?_⟩
  intro h34_
  intro h35_
  intro h36_
  exact h34_
set_option maxRecDepth 8000 in
set_option maxHeartbeats 2000000 in
theorem t_addR : ∀ (p1 : Int) (S : sv_S), sm_ok S → sv_R p1 → (1 ≤ (S 1031 0) ∧ (S 1031 0) ≤ 200 ∧ (¬ (S 15 ((S 1031 0) - 1)) = -1 → 0 ≤ (S 16 ((S 1031 0) - 1)) ∧ (S 16 ((S 1031 0) - 1)) < 12000)) → sv_T sm_XS sm_cs sm_L sm_sh 0 (q_addR p1 S) 36 0 (lv_args 0 [.ref 0, sv_I p1]) [] S := by
  intro p1 S hok hp1 hpre
  have h := f_addR p1 S hok hp1 hpre
  have hM := sm_h36
  show sv_T sm_XS sm_cs sm_L sm_sh 0 (q_addR p1 S) 36 0 [(0, .ref 0), (1, sv_I p1)] [] S
  refine sv_aload_n hM dX12_add_0 rfl rfl ?_
  have k1 : sv_R (S 1031 0) := sm_okI hok sm_r1031 0
  have h := h k1
  refine sv_getI hM dX12_add_1 sm_fl_424 (sm_a0 _) sm_k31 rfl (x := (S 1031 0)) rfl ?_
  refine sv_iconst (d := (1 : Int)) hM dX12_add_4 rfl rfl ?_
  refine sv_isub hM dX12_add_5 rfl ?_
  refine sv_istore_n hM dX12_add_6 (by decide) rfl ?_
  show sv_T sm_XS sm_cs sm_L sm_sh 0 (q_addR p1 S) 36 7 [(0, .ref 0), (1, sv_I p1), (2, sv_I ((S 1031 0) - (1 : Int)))] [] S
  refine sv_aload_n hM dX12_add_7 rfl rfl ?_
  refine sv_getA hM dX12_add_8 sm_fl_56 (sm_a0 _) sm_k29 rfl ?_
  refine sv_iload_n hM dX12_add_11 rfl rfl ?_
  obtain ⟨o2, h⟩ := h
  have k3 : sv_R (S 15 ((S 1031 0) - (1 : Int))) := sm_okI hok sm_r15 ((S 1031 0) - (1 : Int))
  have h := h k3
  refine sv_iald hM dX12_add_12 (sm_a15 _) (by decide) o2.1 o2.2 rfl (x := (S 15 ((S 1031 0) - (1 : Int)))) rfl ?_
  refine sv_iconst (d := (-1 : Int)) hM dX12_add_13 rfl rfl ?_
  refine sv_icmp_ne hM dX12_add_14 k3 (⟨by decide, by decide⟩ : sv_R (-1 : Int)) (t := 27) rfl rfl (fun hc => ?_) (fun hc => ?_)
  · have h := h.1 (hc)
    refine sv_aload_n hM dX12_add_27 rfl rfl ?_
    refine sv_getA hM dX12_add_28 sm_fl_49 (sm_a0 _) sm_k27 rfl ?_
    refine sv_aload_n hM dX12_add_31 rfl rfl ?_
    refine sv_getA hM dX12_add_32 sm_fl_59 (sm_a0 _) sm_k30 rfl ?_
    refine sv_iload_n hM dX12_add_35 rfl rfl ?_
    have k4 : sv_R (S 16 ((S 1031 0) - (1 : Int))) := sm_okI hok sm_r16 ((S 1031 0) - (1 : Int))
    have h := h k4
    refine sv_iald hM dX12_add_36 (sm_a16 _) (by decide) o2.1 o2.2 rfl (x := (S 16 ((S 1031 0) - (1 : Int)))) rfl ?_
    refine sv_iload_n hM dX12_add_37 rfl rfl ?_
    obtain ⟨o5, h⟩ := h
    refine sv_iast sm_X hM dX12_add_38 (sm_a13 _) (by decide) o5.1 o5.2 rfl ?_
    have ok6 : sm_ok (sv_up S 13 (S 16 ((S 1031 0) - (1 : Int))) p1) := sm_upI hok sm_r13 hp1
    have md7 : sv_mod [15, 16, 13] S (sv_up S 13 (S 16 ((S 1031 0) - (1 : Int))) p1) := sv_mod.up sv_mod.rf (by decide)
    refine sv_aload_n hM dX12_add_39 rfl rfl ?_
    refine sv_getA hM dX12_add_40 sm_fl_59 (sm_a0 _) sm_k30 rfl ?_
    refine sv_iload_n hM dX12_add_43 rfl rfl ?_
    refine sv_iload_n hM dX12_add_44 rfl rfl ?_
    refine sv_iast sm_X hM dX12_add_45 (sm_a16 _) (by decide) o2.1 o2.2 rfl ?_
    have ok8 : sm_ok (sv_up (sv_up S 13 (S 16 ((S 1031 0) - (1 : Int))) p1) 16 ((S 1031 0) - (1 : Int)) p1) := sm_upI ok6 sm_r16 hp1
    have md9 : sv_mod [15, 16, 13] S (sv_up (sv_up S 13 (S 16 ((S 1031 0) - (1 : Int))) p1) 16 ((S 1031 0) - (1 : Int)) p1) := sv_mod.up md7 (by decide)
    exact sv_vret hM dX12_add_46 rfl ⟨rfl, ok8, md9, h⟩
  · have h := h.2 (hc)
    refine sv_aload_n hM dX12_add_17 rfl rfl ?_
    refine sv_getA hM dX12_add_18 sm_fl_56 (sm_a0 _) sm_k29 rfl ?_
    refine sv_iload_n hM dX12_add_21 rfl rfl ?_
    refine sv_iload_n hM dX12_add_22 rfl rfl ?_
    refine sv_iast sm_X hM dX12_add_23 (sm_a15 _) (by decide) o2.1 o2.2 rfl ?_
    have ok10 : sm_ok (sv_up S 15 ((S 1031 0) - (1 : Int)) p1) := sm_upI hok sm_r15 hp1
    have md11 : sv_mod [15, 16, 13] S (sv_up S 15 ((S 1031 0) - (1 : Int)) p1) := sv_mod.up sv_mod.rf (by decide)
    refine sv_goto hM dX12_add_24 (pc' := 39) rfl ?_
    refine sv_aload_n hM dX12_add_39 rfl rfl ?_
    refine sv_getA hM dX12_add_40 sm_fl_59 (sm_a0 _) sm_k30 rfl ?_
    refine sv_iload_n hM dX12_add_43 rfl rfl ?_
    refine sv_iload_n hM dX12_add_44 rfl rfl ?_
    refine sv_iast sm_X hM dX12_add_45 (sm_a16 _) (by decide) o2.1 o2.2 rfl ?_
    have ok12 : sm_ok (sv_up (sv_up S 15 ((S 1031 0) - (1 : Int)) p1) 16 ((S 1031 0) - (1 : Int)) p1) := sm_upI ok10 sm_r16 hp1
    have md13 : sv_mod [15, 16, 13] S (sv_up (sv_up S 15 ((S 1031 0) - (1 : Int)) p1) 16 ((S 1031 0) - (1 : Int)) p1) := sv_mod.up md11 (by decide)
    exact sv_vret hM dX12_add_46 rfl ⟨rfl, ok12, md13, h⟩
