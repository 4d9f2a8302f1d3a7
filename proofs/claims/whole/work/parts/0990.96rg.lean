
/-! REGIONS: R n: the try (its node) within whose finally node n lies, -1: none -/
def sm_rgq (R : Int → Int) (N e q : Int) : Prop := e = -1 ∨ (0 ≤ e ∧ e < N ∧ R e = q)
def sm_rn (so wo ne R : Int → Int) (N n : Int) : Prop :=
  (-1 ≤ R n ∧ R n < n) ∧
  (so n = 20 → sm_rgq R N (wo (5 * n)) (R n)) ∧
  (so n = 24 → sm_rgq R N (wo (5 * n + 1)) (R n) ∧ sm_rgq R N (wo (5 * n + 2)) (R n)) ∧
  (so n = 25 ∨ so n = 26 → sm_rgq R N (wo (5 * n + 1)) (R n)) ∧
  (so n = 27 → sm_rgq R N (wo (5 * n)) (R n) ∧ sm_rgq R N (wo (5 * n + 3)) (R n)) ∧
  (so n = 28 → sm_rgq R N (wo (5 * n + 2)) (R n)) ∧
  (so n = 33 → sm_rgq R N (wo (5 * n)) (R n) ∧ sm_rgq R N (wo (5 * n + 2)) (R n) ∧ sm_rgq R N (wo (5 * n + 3)) n) ∧
  (so n = 34 ∨ so n = 35 → sm_rgq R N (wo (5 * n + 1)) (R n)) ∧
  sm_rgq R N (ne n) (R n) ∧
  (so n = 34 → wo (5 * n + 1) = -1 ∨ so (wo (5 * n + 1)) = 35) ∧ (so n = 35 → ne n = -1 ∨ so (ne n) = 35)
def sm_RG (so wo ne R : Int → Int) (N : Int) : Prop := ∀ n : Int, 0 ≤ n → n < N → sm_rn so wo ne R N n
theorem sm_rq_F {R R' : Int → Int} {N N' e q : Int} (h : sm_rgq R N e q) (f : sm_F1 R R' N) (hN : N ≤ N') : sm_rgq R' N' e q := h.imp id (fun z => ⟨z.1, by omega, by rw [f e z.2.1]; exact z.2.2⟩)
theorem sm_rn_F {so wo ne R so' wo' ne' R' : Int → Int} {N N' n : Int} (h : sm_rn so wo ne R N n) (hn : n < N) (e1 : so' n = so n) (w0 : wo' (5 * n) = wo (5 * n)) (w1 : wo' (5 * n + 1) = wo (5 * n + 1)) (w2 : wo' (5 * n + 2) = wo (5 * n + 2)) (w3 : wo' (5 * n + 3) = wo (5 * n + 3)) (e3 : ne' n = ne n) (f : sm_F1 R R' N) (fs : sm_F1 so so' N) (hN : N ≤ N') : sm_rn so' wo' ne' R' N' n := by
  obtain ⟨a0, a1, a2, a3, a4, a5, a6, a7, a8, a9, b1⟩ := h
  have T : ∀ {e q : Int}, sm_rgq R N e q → sm_rgq R' N' e q := fun z => sm_rq_F z f hN
  unfold sm_rn
  rw [e1, w0, w1, w2, w3, e3, f n hn]
  refine ⟨a0, fun z => T (a1 z), fun z => ⟨T (a2 z).1, T (a2 z).2⟩, fun z => T (a3 z), fun z => ⟨T (a4 z).1, T (a4 z).2⟩, fun z => T (a5 z), fun z => ⟨T (a6 z).1, T (a6 z).2.1, T (a6 z).2.2⟩, fun z => T (a7 z), T a8, fun z => ?_, fun z => ?_⟩
  · rcases a7 (Or.inl z) with w | w
    · exact Or.inl w
    · rw [fs _ w.2.1]; exact a9 z
  · rcases a8 with w | w
    · exact Or.inl w
    · rw [fs _ w.2.1]; exact b1 z
theorem sm_RG_0 {so wo ne R : Int → Int} {N : Int} (h : N ≤ 0) : sm_RG so wo ne R N := fun n h0 h1 => by omega
/-- a node comes -/
theorem sm_RG_node {so wo ne R so' wo' ne' R' : Int → Int} {N N' p1 p2 p3 p4 q : Int} (h : sm_RG so wo ne R N) (hN : N' = N + 1) (e1 : sm_F1 so so' N) (e2 : sm_F1 wo wo' (5 * N)) (e3 : sm_F1 ne ne' N) (e4 : sm_F1 R R' N)
    (s1 : so' N = p1) (s2 : wo' (5 * N) = p2) (s3 : wo' (5 * N + 1) = p3) (s4 : wo' (5 * N + 2) = p4) (s5 : wo' (5 * N + 3) = -1) (s6 : ne' N = -1) (s7 : R' N = q) (hq : -1 ≤ q ∧ q < N)
    (k1 : p1 = 20 → (p2 = -1 ∨ (0 ≤ p2 ∧ p2 < N ∧ R p2 = q))) (k2 : p1 = 24 → (p3 = -1 ∨ (0 ≤ p3 ∧ p3 < N ∧ R p3 = q)) ∧ (p4 = -1 ∨ (0 ≤ p4 ∧ p4 < N ∧ R p4 = q))) (k3 : p1 = 25 ∨ p1 = 26 → (p3 = -1 ∨ (0 ≤ p3 ∧ p3 < N ∧ R p3 = q)))
    (k4 : p1 = 27 → (p2 = -1 ∨ (0 ≤ p2 ∧ p2 < N ∧ R p2 = q))) (k5 : p1 = 28 → (p4 = -1 ∨ (0 ≤ p4 ∧ p4 < N ∧ R p4 = q))) (k6 : p1 = 33 → p2 = -1 ∧ p4 = -1) (k7 : p1 = 34 ∨ p1 = 35 → p3 = -1) : sm_RG so' wo' ne' R' N' := fun n h0 h1 => by
  by_cases hn : n < N
  · exact sm_rn_F (h n h0 hn) hn (e1 n hn) (e2 _ (by omega)) (e2 _ (by omega)) (e2 _ (by omega)) (e2 _ (by omega)) (e3 n hn) e4 e1 (by omega)
  · have hn' : n = N := by omega
    subst hn'
    have T : ∀ {e : Int}, (e = -1 ∨ (0 ≤ e ∧ e < n ∧ R e = q)) → sm_rgq R' N' e q := fun z => sm_rq_F (N := n) (N' := N') z e4 (by omega)
    unfold sm_rn
    rw [s1, s2, s3, s4, s5, s6, s7]
    exact ⟨hq, fun z => T (k1 z), fun z => ⟨T (k2 z).1, T (k2 z).2⟩, fun z => T (k3 z), fun z => ⟨T (k4 z), Or.inl rfl⟩, fun z => T (k5 z), fun z => ⟨Or.inl (k6 z).1, Or.inl (k6 z).2, Or.inl rfl⟩, fun z => Or.inl (k7 z), Or.inl rfl, fun z => Or.inl (k7 (Or.inl z)), fun _ => Or.inl rfl⟩
/-- a word is written -/
theorem sm_RG_word {so wo ne R : Int → Int} {N i v : Int} (h : sm_RG so wo ne R N) (r : Int) (hi : 5 * r ≤ i ∧ i < 5 * r + 5)
    (k : so r < 20 ∨ (so r = 33 ∧ (i = 5 * r + 1 ∨ i = 5 * r + 4)) ∨ (so r = 35 ∧ i = 5 * r + 2) ∨ (so r = 33 ∧ i = 5 * r + 3 ∧ (v = -1 ∨ (0 ≤ v ∧ v < N ∧ R v = r))) ∨ (¬ (so r = 33 ∧ i = 5 * r + 3) ∧ (v = -1 ∨ (0 ≤ v ∧ v < N ∧ R v = R r)))) (k2 : so r = 34 → i = 5 * r + 1 → v = -1 ∨ so v = 35) : sm_RG so (fun i' : Int => if i' = i then v else wo i') ne R N := fun n h0 h1 => by
  by_cases hn : n = r
  · subst hn
    obtain ⟨a0, a1, a2, a3, a4, a5, a6, a7, a8, a9, b1⟩ := h n h0 h1
    have G : ∀ {j e q : Int}, sm_rgq R N (wo j) q → (j = i → sm_rgq R N v q) → sm_rgq R N (if j = i then v else wo j) q := fun {j e q} z w => by
      by_cases hj : j = i
      · rw [if_pos hj]; exact w hj
      · rw [if_neg hj]; exact z
    have a9' : so n = 34 → (if 5 * n + 1 = i then v else wo (5 * n + 1)) = -1 ∨ so (if 5 * n + 1 = i then v else wo (5 * n + 1)) = 35 := fun z => by
      by_cases hj : 5 * n + 1 = i
      · rw [if_pos hj]; exact k2 z hj.symm
      · rw [if_neg hj]; exact a9 z
    unfold sm_rn
    dsimp only
    rcases k with k | k | k | k | k
    all_goals refine ⟨a0, fun z => G (e := 0) (a1 z) (fun w => ?_), fun z => ⟨G (e := 0) (a2 z).1 (fun w => ?_), G (e := 0) (a2 z).2 (fun w => ?_)⟩, fun z => G (e := 0) (a3 z) (fun w => ?_), fun z => ⟨G (e := 0) (a4 z).1 (fun w => ?_), G (e := 0) (a4 z).2 (fun w => ?_)⟩, fun z => G (e := 0) (a5 z) (fun w => ?_), fun z => ⟨G (e := 0) (a6 z).1 (fun w => ?_), G (e := 0) (a6 z).2.1 (fun w => ?_), G (e := 0) (a6 z).2.2 (fun w => ?_)⟩, fun z => G (e := 0) (a7 z) (fun w => ?_), a8, a9', b1⟩
    all_goals clear a0 a1 a2 a3 a4 a5 a6 a7 a8 a9 b1 G k2 a9' h
    all_goals first | exact k.2.2 | exact k.2 | exact absurd ⟨z, w.symm⟩ k.1 | (exfalso; omega)
  · exact sm_rn_F (h n h0 h1) h1 rfl (if_neg (by omega)) (if_neg (by omega)) (if_neg (by omega)) (if_neg (by omega)) rfl sm_F1_rf sm_F1_rf (Int.le_refl _)
/-- a list goes on -/
theorem sm_RG_ne {so wo ne R : Int → Int} {N r x : Int} (h : sm_RG so wo ne R N) (k : x = -1 ∨ (0 ≤ x ∧ x < N ∧ R x = R r)) (k2 : so r = 35 → x = -1 ∨ so x = 35) : sm_RG so wo (fun i' : Int => if i' = r then x else ne i') R N := fun n h0 h1 => by
  by_cases hn : n = r
  · subst hn
    obtain ⟨a0, a1, a2, a3, a4, a5, a6, a7, a8, a9, b1⟩ := h n h0 h1
    refine ⟨a0, a1, a2, a3, a4, a5, a6, a7, ?_, a9, ?_⟩
    · dsimp only
      rw [if_pos rfl]
      exact k
    · dsimp only
      rw [if_pos rfl]
      exact k2
  · exact sm_rn_F (h n h0 h1) h1 rfl rfl rfl rfl rfl (if_neg hn) sm_F1_rf sm_F1_rf (Int.le_refl _)

