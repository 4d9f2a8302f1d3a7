
/-! THE TREE: what holds of its nodes. so sort, wo word, ne next, C class (0 none yet, 1 expression, 2 statement, 3 item, 4 pair, 5 of a declaration, 6 case), M measure, V level, Lp within a loop, Ws within a loop or switch; N nodes, ns strings, mn manyNames, nf functions -/
def sm_nm (ns mn x : Int) : Prop := -1 ≤ x ∧ x < ns ∧ (x = -1 → mn = 1)
def sm_ex (C M V : Int → Int) (N k e m v : Int) : Prop := 0 ≤ e ∧ e < N ∧ C e = k ∧ M e ≤ m ∧ V e ≤ v
def sm_li (C M V : Int → Int) (N k e m v : Int) : Prop := e = -1 ∨ sm_ex C M V N k e m v
/-- a statement as a part: its context too -/
def sm_sx (C M V Lp Ws : Int → Int) (N k e m v l w : Int) : Prop := sm_ex C M V N k e m v ∧ Lp e ≤ l ∧ Ws e ≤ w
def sm_sl (C M V Lp Ws : Int → Int) (N k e m v l w : Int) : Prop := e = -1 ∨ sm_sx C M V Lp Ws N k e m v l w
def sm_c1 (so wo C M V : Int → Int) (N ns mn : Int) (nf : Int → Prop) (n m v : Int) : Prop :=
  0 ≤ so n ∧ so n ≤ 17 ∧
  (so n = 0 → 0 ≤ wo (5 * n) ∧ wo (5 * n) ≤ 6 ∧ (wo (5 * n) = 6 → sm_nm ns mn (wo (5 * n + 1)))) ∧
  (so n = 2 → sm_nm ns mn (wo (5 * n))) ∧
  (so n = 3 → sm_ex C M V N 1 (wo (5 * n)) m v ∧ wo (5 * n) < n ∧ sm_ex C M V N 1 (wo (5 * n + 1)) m v) ∧
  (so n = 4 → sm_li C M V N 3 (wo (5 * n)) 16 (v - 1)) ∧
  (so n = 5 → sm_li C M V N 4 (wo (5 * n)) (m - 2) (v - 1)) ∧
  (so n = 6 → 1 ≤ wo (5 * n) ∧ nf (wo (5 * n))) ∧
  (so n = 7 → sm_ex C M V N 1 (wo (5 * n)) m v ∧ wo (5 * n) < n ∧ sm_ex C M V N 1 (wo (5 * n + 1)) (m - 1) v ∧ wo (5 * n + 1) < n) ∧
  (so n = 8 → sm_ex C M V N 1 (wo (5 * n)) m v ∧ wo (5 * n) < n ∧ sm_li C M V N 3 (wo (5 * n + 1)) 8 (v - 1)) ∧
  (so n = 9 → sm_ex C M V N 1 (wo (5 * n)) (m - 2) v ∧ wo (5 * n) < n ∧ sm_li C M V N 3 (wo (5 * n + 1)) 8 (v - 1)) ∧
  (so n = 10 → 0 ≤ wo (5 * n) ∧ wo (5 * n) ≤ 6 ∧ sm_ex C M V N 1 (wo (5 * n + 1)) (m - 3) v ∧ wo (5 * n + 1) < n ∧ (wo (5 * n) = 6 → so (wo (5 * n + 1)) = 7)) ∧
  (so n = 11 → sm_ex C M V N 1 (wo (5 * n + 1)) m v ∧ wo (5 * n + 1) < n ∧ sm_ex C M V N 1 (wo (5 * n + 2)) (m - 1) v ∧ 0 ≤ wo (5 * n) ∧ wo (5 * n) ≤ 20) ∧
  (so n = 12 ∨ so n = 13 → sm_ex C M V N 1 (wo (5 * n)) m v ∧ wo (5 * n) < n ∧ sm_ex C M V N 1 (wo (5 * n + 1)) (m - 1) v) ∧
  (so n = 14 → sm_ex C M V N 1 (wo (5 * n)) (m - 2) v ∧ sm_ex C M V N 1 (wo (5 * n + 1)) (m - 2) v ∧ sm_ex C M V N 1 (wo (5 * n + 2)) (m - 2) v) ∧
  (so n = 15 → -1 ≤ wo (5 * n) ∧ wo (5 * n) ≤ 10 ∧ sm_ex C M V N 1 (wo (5 * n + 1)) (m - 3) v ∧ wo (5 * n + 1) < n ∧ (so (wo (5 * n + 1)) = 2 ∨ so (wo (5 * n + 1)) = 7) ∧ sm_ex C M V N 1 (wo (5 * n + 2)) (m - 3) (v - 1)) ∧
  (so n = 16 ∨ so n = 17 → 0 ≤ wo (5 * n) ∧ wo (5 * n) ≤ 1 ∧ sm_ex C M V N 1 (wo (5 * n + 1)) (m - 3) v ∧ wo (5 * n + 1) < n ∧ (so (wo (5 * n + 1)) = 2 ∨ so (wo (5 * n + 1)) = 7))
def sm_w1 (so wo C M V : Int → Int) (N ns mn : Int) (nf : Int → Prop) (n : Int) : Prop := sm_c1 so wo C M V N ns mn nf n (M n) (V n)
def sm_w2 (so wo C M V Lp Ws : Int → Int) (N ns mn : Int) (nf : Int → Prop) (n : Int) : Prop :=
  20 ≤ so n ∧ so n ≤ 36 ∧ ¬ so n = 35 ∧ 0 ≤ Lp n ∧ Lp n ≤ Ws n ∧ Ws n ≤ 1 ∧
  (so n = 20 → sm_sl C M V Lp Ws N 2 (wo (5 * n)) (M n - 3) (V n - 1) (Lp n) (Ws n)) ∧
  (so n = 21 → sm_li C M V N 5 (wo (5 * n)) (M n - 3) (V n)) ∧
  (so n = 23 → sm_ex C M V N 1 (wo (5 * n)) (M n - 2) (V n)) ∧
  (so n = 24 → sm_ex C M V N 1 (wo (5 * n)) (M n - 2) (V n) ∧ sm_sx C M V Lp Ws N 2 (wo (5 * n + 1)) (M n - 2) (V n - 1) (Lp n) (Ws n) ∧ sm_sl C M V Lp Ws N 2 (wo (5 * n + 2)) (M n - 2) (V n - 1) (Lp n) (Ws n)) ∧
  (so n = 25 ∨ so n = 26 → sm_ex C M V N 1 (wo (5 * n)) (M n - 2) (V n) ∧ sm_sx C M V Lp Ws N 2 (wo (5 * n + 1)) (M n - 3) (V n - 1) 1 1) ∧
  (so n = 27 → sm_sl C M V Lp Ws N 2 (wo (5 * n)) (M n - 2) (V n) (Lp n) (Ws n) ∧ (¬ wo (5 * n) = -1 → so (wo (5 * n)) = 21 ∨ so (wo (5 * n)) = 23) ∧ sm_li C M V N 1 (wo (5 * n + 1)) (M n - 2) (V n) ∧ sm_li C M V N 1 (wo (5 * n + 2)) (M n - 2) (V n) ∧ sm_sx C M V Lp Ws N 2 (wo (5 * n + 3)) (M n - 2) (V n - 1) 1 1) ∧
  (so n = 28 → sm_nm ns mn (wo (5 * n)) ∧ sm_ex C M V N 1 (wo (5 * n + 1)) (M n - 2) (V n) ∧ sm_sx C M V Lp Ws N 2 (wo (5 * n + 2)) (M n - 3) (V n - 1) 1 1) ∧
  (so n = 29 → Lp n = 1) ∧ (so n = 30 → Ws n = 1) ∧
  (so n = 31 → sm_li C M V N 1 (wo (5 * n)) (M n - 3) (V n)) ∧
  (so n = 32 → sm_ex C M V N 1 (wo (5 * n)) (M n - 2) (V n)) ∧
  (so n = 33 → sm_sl C M V Lp Ws N 2 (wo (5 * n)) (M n - 5) (V n - 1) (Lp n) (Ws n) ∧ sm_sl C M V Lp Ws N 2 (wo (5 * n + 2)) (M n - 5) (V n - 1) (Lp n) (Ws n) ∧ sm_sl C M V Lp Ws N 2 (wo (5 * n + 3)) (M n - 5) (V n - 1) (Lp n) (Ws n) ∧ 1 ≤ wo (5 * n + 4) ∧ wo (5 * n + 4) ≤ 3 ∧ (wo (5 * n + 4) = 1 ∨ wo (5 * n + 4) = 3 → sm_nm ns mn (wo (5 * n + 1)))) ∧
  (so n = 34 → sm_ex C M V N 1 (wo (5 * n)) (M n - 3) (V n) ∧ sm_sl C M V Lp Ws N 6 (wo (5 * n + 1)) 4001 (V n) (Lp n) 3) ∧
  (so n = 36 → 1 ≤ wo (5 * n) ∧ nf (wo (5 * n)))
/-- items: 3 an A, 4 a pair, 5 of a declaration, 6 a case -/
def sm_w3 (so wo ne C M V Lp Ws : Int → Int) (N ns mn n : Int) : Prop :=
  (C n = 3 → sm_ex C M V N 1 (wo (5 * n)) (17 * V n + 17) (V n)) ∧
  (C n = 4 → sm_ex C M V N 1 (wo (5 * n)) (M n) (V n) ∧ sm_nm ns mn (wo (5 * n + 1))) ∧
  (C n = 5 → sm_li C M V N 1 (wo (5 * n)) (M n) (V n) ∧ sm_nm ns mn (wo (5 * n + 1))) ∧
  (C n = 6 → sm_li C M V N 1 (wo (5 * n)) (17 * V n + 2) (V n) ∧ sm_sl C M V Lp Ws N 2 (wo (5 * n + 1)) (17 * V n + 2) (V n - 1) (Lp n) 1 ∧ 0 ≤ Lp n ∧ Lp n ≤ 1)
/-- more of a node: measures and levels are no less than 0; a comma's right part lies below; cases are counted down, one default at most -/
def sm_xn (so wo C M V Ws : Int → Int) (n : Int) : Prop :=
  (C n = 1 → 0 ≤ M n ∧ (so n = 3 → wo (5 * n + 1) < n) ∧ (so n = 4 ∨ so n = 5 ∨ so n = 8 ∨ so n = 9 → 17 * V n + 2 ≤ M n) ∧ 0 ≤ V n) ∧
  (C n = 2 → 0 ≤ V n ∧ M n ≤ 17 * V n + 5 ∧ (so n = 33 → 1 ≤ V n)) ∧
  (C n = 6 → 0 ≤ M n ∧ 1 ≤ Ws n ∧ (wo (5 * n) = -1 → Ws n = 2)) ∧
  (C n = 3 → 1 ≤ M n)
theorem sm_xn_0 {so wo C M V Ws : Int → Int} {n : Int} (h : C n = 0) : sm_xn so wo C M V Ws n := ⟨fun q => by omega, fun q => by omega, fun q => by omega, fun q => by omega⟩
theorem sm_xn_e {so wo C M V Ws so' wo' C' M' V' Ws' : Int → Int} {n : Int} (h : sm_xn so wo C M V Ws n) (e1 : C' n = C n) (e2 : M' n = M n) (e3 : V' n = V n) (e4 : Ws' n = Ws n) (e5 : so' n = so n) (e6 : wo' (5 * n) = wo (5 * n)) (e7 : wo' (5 * n + 1) = wo (5 * n + 1)) : sm_xn so' wo' C' M' V' Ws' n := by
  unfold sm_xn
  rw [e1, e2, e3, e4, e5, e6, e7]
  exact h
def sm_wn (so wo ne C M V Lp Ws : Int → Int) (N ns mn : Int) (nf : Int → Prop) (n : Int) : Prop :=
  0 ≤ C n ∧ C n ≤ 6 ∧ (C n = 1 → sm_w1 so wo C M V N ns mn nf n) ∧ (C n = 2 → sm_w2 so wo C M V Lp Ws N ns mn nf n) ∧ sm_w3 so wo ne C M V Lp Ws N ns mn n ∧
  (2 ≤ C n → ne n = -1 ∨ (n < ne n ∧ ne n < N ∧ C (ne n) = C n ∧ M (ne n) ≤ M n ∧ V (ne n) ≤ V n ∧ Lp (ne n) ≤ Lp n ∧ Ws (ne n) ≤ Ws n ∧ (C n = 3 ∨ C n = 6 → M (ne n) < M n) ∧ (C n = 6 → Ws n = 2 → Ws (ne n) < 2))) ∧ sm_xn so wo C M V Ws n
def sm_WF (so wo ne C M V Lp Ws : Int → Int) (N ns mn : Int) (nf : Int → Prop) : Prop :=
  (∀ n : Int, 0 ≤ n → n < N → sm_wn so wo ne C M V Lp Ws N ns mn nf n) ∧ (∀ n : Int, N ≤ n → C n = 0) ∧ 0 ≤ N
section TREE
variable {so wo ne C M V Lp Ws so' wo' ne' C' M' V' Lp' Ws' : Int → Int} {N ns mn : Int} {nf : Int → Prop} {N' ns' mn' : Int} {nf' : Int → Prop}
/-- where nodes had a class, the rows are as they were -/
def sm_ag (so wo C M V Lp Ws so' wo' C' M' V' Lp' Ws' : Int → Int) (N N' : Int) : Prop :=
  N ≤ N' ∧ ∀ e : Int, 0 ≤ e → e < N → ¬ C e = 0 → C' e = C e ∧ M' e = M e ∧ V' e = V e ∧ Lp' e = Lp e ∧ Ws' e = Ws e ∧ so' e = so e ∧ wo' (5 * e) = wo (5 * e) ∧ wo' (5 * e + 1) = wo (5 * e + 1) ∧ wo' (5 * e + 2) = wo (5 * e + 2) ∧ wo' (5 * e + 3) = wo (5 * e + 3) ∧ wo' (5 * e + 4) = wo (5 * e + 4)
theorem sm_ex_mono (A : sm_ag so wo C M V Lp Ws so' wo' C' M' V' Lp' Ws' N N') {k e m v : Int} (hk : ¬ k = 0) (h : sm_ex C M V N k e m v) : sm_ex C' M' V' N' k e m v := by
  obtain ⟨h1, h2, h3, h4, h5⟩ := h
  obtain ⟨a1, a2⟩ := A
  obtain ⟨c1, c2, c3, -⟩ := a2 e h1 h2 (by omega)
  exact ⟨h1, by omega, by omega, by omega, by omega⟩
theorem sm_li_mono (A : sm_ag so wo C M V Lp Ws so' wo' C' M' V' Lp' Ws' N N') {k e m v : Int} (hk : ¬ k = 0) (h : sm_li C M V N k e m v) : sm_li C' M' V' N' k e m v := h.imp id (sm_ex_mono A hk)
theorem sm_sx_mono (A : sm_ag so wo C M V Lp Ws so' wo' C' M' V' Lp' Ws' N N') {k e m v l w : Int} (hk : ¬ k = 0) (h : sm_sx C M V Lp Ws N k e m v l w) : sm_sx C' M' V' Lp' Ws' N' k e m v l w := by
  obtain ⟨h1, h2, h3⟩ := h
  obtain ⟨-, -, -, c4, c5, -⟩ := A.2 e h1.1 h1.2.1 (by have := h1.2.2.1; omega)
  exact ⟨sm_ex_mono A hk h1, by omega, by omega⟩
theorem sm_sl_mono (A : sm_ag so wo C M V Lp Ws so' wo' C' M' V' Lp' Ws' N N') {k e m v l w : Int} (hk : ¬ k = 0) (h : sm_sl C M V Lp Ws N k e m v l w) : sm_sl C' M' V' Lp' Ws' N' k e m v l w := h.imp id (sm_sx_mono A hk)
theorem sm_so_mono (A : sm_ag so wo C M V Lp Ws so' wo' C' M' V' Lp' Ws' N N') {k e m v : Int} (hk : ¬ k = 0) (h : sm_ex C M V N k e m v) : so' e = so e := (A.2 e h.1 h.2.1 (by have := h.2.2.1; omega)).2.2.2.2.2.1
theorem sm_nm_mono {x : Int} (hs : ns ≤ ns') (hm : mn = 1 → mn' = 1) (h : sm_nm ns mn x) : sm_nm ns' mn' x := ⟨h.1, by have := h.2.1; omega, fun q => hm (h.2.2 q)⟩
set_option maxHeartbeats 4000000 in
theorem sm_w1_mono (A : sm_ag so wo C M V Lp Ws so' wo' C' M' V' Lp' Ws' N N') (hs : ns ≤ ns') (hm : mn = 1 → mn' = 1) (hf : ∀ x : Int, nf x → nf' x) {n : Int} (h0 : 0 ≤ n) (h1 : n < N) (h2 : ¬ C n = 0) (h : sm_w1 so wo C M V N ns mn nf n) : sm_w1 so' wo' C' M' V' N' ns' mn' nf' n := by
  obtain ⟨-, b2, b3, -, -, b6, b7, b8, b9, b10, b11⟩ := A.2 n h0 h1 h2
  unfold sm_w1 sm_c1 at *
  rw [b2, b3, b6, b7, b8, b9]
  obtain ⟨a0, a1, a2, a3, a4, a5, a6, a7, a8, a9, a10, a11, a12, a13, a14, a15, a16⟩ := h
  have X : ∀ {k e m v : Int}, ¬ k = 0 → sm_ex C M V N k e m v → sm_ex C' M' V' N' k e m v := fun hk q => sm_ex_mono A hk q
  have Y : ∀ {k e m v : Int}, ¬ k = 0 → sm_li C M V N k e m v → sm_li C' M' V' N' k e m v := fun hk q => sm_li_mono A hk q
  have Z : ∀ {x : Int}, sm_nm ns mn x → sm_nm ns' mn' x := fun q => sm_nm_mono hs hm q
  have o : ¬ (1 : Int) = 0 := by decide
  have o3 : ¬ (3 : Int) = 0 := by decide
  have o4 : ¬ (4 : Int) = 0 := by decide
  refine ⟨a0, a1, fun q => ?_, fun q => ?_, fun q => ?_, fun q => ?_, fun q => ?_, fun q => ?_, fun q => ?_, fun q => ?_, fun q => ?_, fun q => ?_, fun q => ?_, fun q => ?_, fun q => ?_, fun q => ?_, fun q => ?_⟩
  · have b := a2 q; exact ⟨b.1, b.2.1, fun q2 => Z (b.2.2 q2)⟩
  · exact Z (a3 q)
  · have b := a4 q; exact ⟨X o b.1, b.2.1, X o b.2.2⟩
  · exact Y o3 (a5 q)
  · exact Y o4 (a6 q)
  · have b := a7 q; exact ⟨b.1, hf _ b.2⟩
  · have b := a8 q; exact ⟨X o b.1, b.2.1, X o b.2.2.1, b.2.2.2⟩
  · have b := a9 q; exact ⟨X o b.1, b.2.1, Y o3 b.2.2⟩
  · have b := a10 q; exact ⟨X o b.1, b.2.1, Y o3 b.2.2⟩
  · have b := a11 q; exact ⟨b.1, b.2.1, X o b.2.2.1, b.2.2.2.1, fun q2 => by rw [sm_so_mono A o b.2.2.1]; exact b.2.2.2.2 q2⟩
  · have b := a12 q; exact ⟨X o b.1, b.2.1, X o b.2.2.1, b.2.2.2⟩
  · have b := a13 q; exact ⟨X o b.1, b.2.1, X o b.2.2⟩
  · have b := a14 q; exact ⟨X o b.1, X o b.2.1, X o b.2.2⟩
  · have b := a15 q; exact ⟨b.1, b.2.1, X o b.2.2.1, b.2.2.2.1, by rw [sm_so_mono A o b.2.2.1]; exact b.2.2.2.2.1, X o b.2.2.2.2.2⟩
  · have b := a16 q; exact ⟨b.1, b.2.1, X o b.2.2.1, b.2.2.2.1, by rw [sm_so_mono A o b.2.2.1]; exact b.2.2.2.2⟩
set_option maxHeartbeats 4000000 in
theorem sm_w2_mono (A : sm_ag so wo C M V Lp Ws so' wo' C' M' V' Lp' Ws' N N') (hs : ns ≤ ns') (hm : mn = 1 → mn' = 1) (hf : ∀ x : Int, nf x → nf' x) {n : Int} (h0 : 0 ≤ n) (h1 : n < N) (h2 : ¬ C n = 0) (h : sm_w2 so wo C M V Lp Ws N ns mn nf n) : sm_w2 so' wo' C' M' V' Lp' Ws' N' ns' mn' nf' n := by
  obtain ⟨-, b2, b3, b4, b5, b6, b7, b8, b9, b10, b11⟩ := A.2 n h0 h1 h2
  unfold sm_w2 at *
  rw [b2, b3, b4, b5, b6, b7, b8, b9, b10, b11]
  obtain ⟨a0, a1, a2, a3, a4, a5, a6, a7, a8, a9, a10, a11, a12, a13, a14, a15, a16, a17, a18, a19⟩ := h
  have X : ∀ {k e m v : Int}, ¬ k = 0 → sm_ex C M V N k e m v → sm_ex C' M' V' N' k e m v := fun hk q => sm_ex_mono A hk q
  have Y : ∀ {k e m v : Int}, ¬ k = 0 → sm_li C M V N k e m v → sm_li C' M' V' N' k e m v := fun hk q => sm_li_mono A hk q
  have U : ∀ {k e m v l w : Int}, ¬ k = 0 → sm_sx C M V Lp Ws N k e m v l w → sm_sx C' M' V' Lp' Ws' N' k e m v l w := fun hk q => sm_sx_mono A hk q
  have T : ∀ {k e m v l w : Int}, ¬ k = 0 → sm_sl C M V Lp Ws N k e m v l w → sm_sl C' M' V' Lp' Ws' N' k e m v l w := fun hk q => sm_sl_mono A hk q
  have Z : ∀ {x : Int}, sm_nm ns mn x → sm_nm ns' mn' x := fun q => sm_nm_mono hs hm q
  have o : ¬ (1 : Int) = 0 := by decide
  have o2 : ¬ (2 : Int) = 0 := by decide
  have o5 : ¬ (5 : Int) = 0 := by decide
  have o6 : ¬ (6 : Int) = 0 := by decide
  refine ⟨a0, a1, a2, a3, a4, a5, fun q => ?_, fun q => ?_, fun q => ?_, fun q => ?_, fun q => ?_, fun q => ?_, fun q => ?_, a13, a14, fun q => ?_, fun q => ?_, fun q => ?_, fun q => ?_, fun q => ?_⟩
  · exact T o2 (a6 q)
  · exact Y o5 (a7 q)
  · exact X o (a8 q)
  · have b := a9 q; exact ⟨X o b.1, U o2 b.2.1, T o2 b.2.2⟩
  · have b := a10 q; exact ⟨X o b.1, U o2 b.2⟩
  · have b := a11 q
    refine ⟨T o2 b.1, fun q2 => ?_, Y o b.2.2.1, Y o b.2.2.2.1, U o2 b.2.2.2.2⟩
    rcases b.1 with q3 | q3
    · exact absurd q3 q2
    · rw [sm_so_mono A o2 q3.1]; exact b.2.1 q2
  · have b := a12 q; exact ⟨Z b.1, X o b.2.1, U o2 b.2.2⟩
  · exact Y o (a15 q)
  · exact X o (a16 q)
  · have b := a17 q; exact ⟨T o2 b.1, T o2 b.2.1, T o2 b.2.2.1, b.2.2.2.1, b.2.2.2.2.1, fun q2 => Z (b.2.2.2.2.2 q2)⟩
  · have b := a18 q; exact ⟨X o b.1, T o6 b.2⟩
  · have b := a19 q; exact ⟨b.1, hf _ b.2⟩
theorem sm_w3_mono (A : sm_ag so wo C M V Lp Ws so' wo' C' M' V' Lp' Ws' N N') (hs : ns ≤ ns') (hm : mn = 1 → mn' = 1) {n : Int} (h0 : 0 ≤ n) (h1 : n < N) (h2 : ¬ C n = 0) (h : sm_w3 so wo ne C M V Lp Ws N ns mn n) : sm_w3 so' wo' ne' C' M' V' Lp' Ws' N' ns' mn' n := by
  obtain ⟨b1, b2, b3, b4, b5, b6, b7, b8, b9, b10, b11⟩ := A.2 n h0 h1 h2
  unfold sm_w3 at *
  rw [b1, b2, b3, b4, b7, b8]
  obtain ⟨a3, a4, a5, a6⟩ := h
  refine ⟨fun q => sm_ex_mono A (by decide) (a3 q), fun q => ⟨sm_ex_mono A (by decide) (a4 q).1, sm_nm_mono hs hm (a4 q).2⟩, fun q => ⟨sm_li_mono A (by decide) (a5 q).1, sm_nm_mono hs hm (a5 q).2⟩, fun q => ?_⟩
  have b := a6 q
  exact ⟨sm_li_mono A (by decide) b.1, sm_sl_mono A (by decide) b.2.1, b.2.2⟩
/-- a node that had a class: what holds of it holds on, if its next one is in order -/
theorem sm_wn_mono (A : sm_ag so wo C M V Lp Ws so' wo' C' M' V' Lp' Ws' N N') (hs : ns ≤ ns') (hm : mn = 1 → mn' = 1) (hf : ∀ x : Int, nf x → nf' x) {n : Int} (h0 : 0 ≤ n) (h1 : n < N) (h2 : ¬ C n = 0) (h : sm_wn so wo ne C M V Lp Ws N ns mn nf n)
    (hn : ne' n = ne n ∨ ne' n = -1 ∨ (n < ne' n ∧ ne' n < N ∧ C (ne' n) = C n ∧ M (ne' n) ≤ M n ∧ V (ne' n) ≤ V n ∧ Lp (ne' n) ≤ Lp n ∧ Ws (ne' n) ≤ Ws n ∧ (C n = 3 ∨ C n = 6 → M (ne' n) < M n) ∧ (C n = 6 → Ws n = 2 → Ws (ne' n) < 2))) : sm_wn so' wo' ne' C' M' V' Lp' Ws' N' ns' mn' nf' n := by
  obtain ⟨b1, b2, b3, b4, b5, b6, b7, b8, -⟩ := A.2 n h0 h1 h2
  obtain ⟨a0, a1, a2, a3, a4, a5, a6⟩ := h
  have a6' := sm_xn_e (so' := so') (wo' := wo') (C' := C') (M' := M') (V' := V') (Ws' := Ws') a6 b1 b2 b3 b5 b6 b7 b8
  unfold sm_wn
  rw [b1, b2, b3, b4, b5]
  refine ⟨a0, a1, fun q => sm_w1_mono A hs hm hf h0 h1 h2 (a2 q), fun q => sm_w2_mono A hs hm hf h0 h1 h2 (a3 q), sm_w3_mono A hs hm h0 h1 h2 a4, fun q => ?_, a6'⟩
  have key : ∀ x : Int, (n < x ∧ x < N ∧ C x = C n ∧ M x ≤ M n ∧ V x ≤ V n ∧ Lp x ≤ Lp n ∧ Ws x ≤ Ws n ∧ (C n = 3 ∨ C n = 6 → M x < M n) ∧ (C n = 6 → Ws n = 2 → Ws x < 2)) → (n < x ∧ x < N' ∧ C' x = C n ∧ M' x ≤ M n ∧ V' x ≤ V n ∧ Lp' x ≤ Lp n ∧ Ws' x ≤ Ws n ∧ (C n = 3 ∨ C n = 6 → M' x < M n) ∧ (C n = 6 → Ws n = 2 → Ws' x < 2)) := fun x hx => by
    obtain ⟨c1, c2, c3, c4, c5, -⟩ := A.2 x (by omega) hx.2.1 (by rw [hx.2.2.1]; exact h2)
    have := A.1
    rw [c1, c2, c3, c4, c5]
    exact ⟨hx.1, by omega, hx.2.2⟩
  rcases hn with hn | hn | hn
  · rw [hn]
    exact (a5 q).imp id (key _)
  · exact Or.inl hn
  · exact Or.inr (key _ hn)
/-- one node more, of no class yet -/
theorem sm_WF_node (h : sm_WF so wo ne C M V Lp Ws N ns mn nf) (h1 : ∀ n : Int, n < N → so' n = so n ∧ ne' n = ne n) (h2 : ∀ n : Int, n < 5 * N → wo' n = wo n) : sm_WF so' wo' ne' C M V Lp Ws (N + 1) ns mn nf := by
  have A : sm_ag so wo C M V Lp Ws so' wo' C M V Lp Ws N (N + 1) := ⟨by omega, fun e h0 h3 _ => ⟨rfl, rfl, rfl, rfl, rfl, (h1 e h3).1, h2 _ (by omega), h2 _ (by omega), h2 _ (by omega), h2 _ (by omega), h2 _ (by omega)⟩⟩
  obtain ⟨a1, a2, a3⟩ := h
  refine ⟨fun n h0 h3 => ?_, fun n hn => a2 n (by omega), by omega⟩
  by_cases hc : C n = 0
  · have : sm_w3 so' wo' ne' C M V Lp Ws (N + 1) ns mn n := ⟨fun q => by omega, fun q => by omega, fun q => by omega, fun q => by omega⟩
    exact ⟨by omega, by omega, fun q => by omega, fun q => by omega, this, fun q => by omega, sm_xn_0 hc⟩
  · have hn : n < N := by
      by_cases q : n < N
      · exact q
      · exact absurd (a2 n (by omega)) hc
    exact sm_wn_mono A (Int.le_refl _) id (fun _ q => q) h0 hn hc (a1 n h0 hn) (Or.inl (h1 n hn).2)
/-- strings and functions may come -/
theorem sm_WF_ns (h : sm_WF so wo ne C M V Lp Ws N ns mn nf) (hs : ns ≤ ns') (hm : mn = 1 → mn' = 1) (hf : ∀ x : Int, nf x → nf' x) : sm_WF so wo ne C M V Lp Ws N ns' mn' nf' := by
  have A : sm_ag so wo C M V Lp Ws so wo C M V Lp Ws N N := ⟨by omega, fun e h0 h3 _ => ⟨rfl, rfl, rfl, rfl, rfl, rfl, rfl, rfl, rfl, rfl, rfl⟩⟩
  obtain ⟨a1, a2, a3⟩ := h
  refine ⟨fun n h0 h3 => ?_, a2, a3⟩
  by_cases hc : C n = 0
  · have : sm_w3 so wo ne C M V Lp Ws N ns' mn' n := ⟨fun q => by omega, fun q => by omega, fun q => by omega, fun q => by omega⟩
    exact ⟨by omega, by omega, fun q => by omega, fun q => by omega, this, fun q => by omega, sm_xn_0 hc⟩
  · exact sm_wn_mono A hs hm hf h0 h3 hc (a1 n h0 h3) (Or.inl rfl)
/-- a part of a node without a class is written -/
theorem sm_WF_word (h : sm_WF so wo ne C M V Lp Ws N ns mn nf) (r i x : Int) (hr : C r = 0) (hi : 5 * r ≤ i ∧ i < 5 * r + 5) : sm_WF so (fun j => if j = i then x else wo j) ne C M V Lp Ws N ns mn nf := by
  have A : sm_ag so wo C M V Lp Ws so (fun j => if j = i then x else wo j) C M V Lp Ws N N := ⟨by omega, fun e h0 h3 hc => by
    have hne : ¬ e = r := fun q => hc (by rw [q]; exact hr)
    exact ⟨rfl, rfl, rfl, rfl, rfl, rfl, if_neg (by omega), if_neg (by omega), if_neg (by omega), if_neg (by omega), if_neg (by omega)⟩⟩
  obtain ⟨a1, a2, a3⟩ := h
  refine ⟨fun n h0 h3 => ?_, a2, a3⟩
  by_cases hc : C n = 0
  · exact ⟨by omega, by omega, fun q => by omega, fun q => by omega, ⟨fun q => by omega, fun q => by omega, fun q => by omega, fun q => by omega⟩, fun q => by omega, sm_xn_0 hc⟩
  · exact sm_wn_mono A (Int.le_refl _) id (fun _ q => q) h0 h3 hc (a1 n h0 h3) (Or.inl rfl)
/-- a list goes on -/
theorem sm_WF_next (h : sm_WF so wo ne C M V Lp Ws N ns mn nf) (x y : Int) (hx : x < y ∧ y < N ∧ 0 ≤ x ∧ C y = C x ∧ M y ≤ M x ∧ V y ≤ V x ∧ Lp y ≤ Lp x ∧ Ws y ≤ Ws x ∧ (C x = 3 ∨ C x = 6 → M y < M x) ∧ (C x = 6 → Ws x = 2 → Ws y < 2)) : sm_WF so wo (fun j => if j = x then y else ne j) C M V Lp Ws N ns mn nf := by
  have A : sm_ag so wo C M V Lp Ws so wo C M V Lp Ws N N := ⟨by omega, fun e h0 h3 _ => ⟨rfl, rfl, rfl, rfl, rfl, rfl, rfl, rfl, rfl, rfl, rfl⟩⟩
  obtain ⟨a1, a2, a3⟩ := h
  refine ⟨fun n h0 h3 => ?_, a2, a3⟩
  by_cases hc : C n = 0
  · exact ⟨by omega, by omega, fun q => by omega, fun q => by omega, ⟨fun q => by omega, fun q => by omega, fun q => by omega, fun q => by omega⟩, fun q => by omega, sm_xn_0 hc⟩
  · refine sm_wn_mono A (Int.le_refl _) id (fun _ q => q) h0 h3 hc (a1 n h0 h3) ?_
    by_cases hn : n = x
    · subst hn; rw [if_pos rfl]; exact Or.inr (Or.inr ⟨hx.1, hx.2.1, hx.2.2.2⟩)
    · rw [if_neg hn]; exact Or.inl rfl
/-- a node gets its class -/
theorem sm_WF_mark (h : sm_WF so wo ne C M V Lp Ws N ns mn nf) (r k m v l w : Int) (h0 : 0 ≤ r) (h1 : r < N) (hr : C r = 0) (hn : ne r = -1)
    (hw : sm_wn so wo ne (fun j => if j = r then k else C j) (fun j => if j = r then m else M j) (fun j => if j = r then v else V j) (fun j => if j = r then l else Lp j) (fun j => if j = r then w else Ws j) N ns mn nf r) :
    sm_WF so wo ne (fun j => if j = r then k else C j) (fun j => if j = r then m else M j) (fun j => if j = r then v else V j) (fun j => if j = r then l else Lp j) (fun j => if j = r then w else Ws j) N ns mn nf := by
  have A : sm_ag so wo C M V Lp Ws so wo (fun j => if j = r then k else C j) (fun j => if j = r then m else M j) (fun j => if j = r then v else V j) (fun j => if j = r then l else Lp j) (fun j => if j = r then w else Ws j) N N := ⟨by omega, fun e h2 h3 hc => by
    have hne : ¬ e = r := fun q => hc (by rw [q]; exact hr)
    exact ⟨if_neg hne, if_neg hne, if_neg hne, if_neg hne, if_neg hne, rfl, rfl, rfl, rfl, rfl, rfl⟩⟩
  obtain ⟨a1, a2, a3⟩ := h
  refine ⟨fun n h2 h3 => ?_, fun n hn => by dsimp only; rw [if_neg (by omega)]; exact a2 n hn, a3⟩
  by_cases hq : n = r
  · subst hq; exact hw
  · by_cases hc : C n = 0
    · have e : (fun j => if j = r then k else C j) n = 0 := by dsimp only; rw [if_neg hq]; exact hc
      have e1 : (if n = r then k else C n) = 0 := e
      refine ⟨?_, ?_, fun q => ?_, fun q => ?_, ⟨fun q => ?_, fun q => ?_, fun q => ?_, fun q => ?_⟩, fun q => ?_, sm_xn_0 e⟩ <;> first | (dsimp only; omega) | (dsimp only at q; omega)
    · exact sm_wn_mono A (Int.le_refl _) id (fun _ q => q) h2 h3 hc (a1 n h2 h3) (Or.inl rfl)
end TREE
/-! what stays of nodes that have a class; lists that are open; names that are held -/
def sm_PS (so C M V Lp Ws so' C' M' V' Lp' Ws' : Int → Int) (N : Int) : Prop := ∀ n : Int, 0 ≤ n → n < N → ¬ C n = 0 → C' n = C n ∧ M' n = M n ∧ V' n = V n ∧ Lp' n = Lp n ∧ Ws' n = Ws n ∧ so' n = so n
theorem sm_PS_rf {so C M V Lp Ws : Int → Int} {N : Int} : sm_PS so C M V Lp Ws so C M V Lp Ws N := fun _ _ _ _ => ⟨rfl, rfl, rfl, rfl, rfl, rfl⟩
theorem sm_PS_tr {so C M V Lp Ws so' C' M' V' Lp' Ws' so2 C2 M2 V2 Lp2 Ws2 : Int → Int} {N N' : Int} (h : sm_PS so C M V Lp Ws so' C' M' V' Lp' Ws' N) (h2 : sm_PS so' C' M' V' Lp' Ws' so2 C2 M2 V2 Lp2 Ws2 N') (hN : N ≤ N') : sm_PS so C M V Lp Ws so2 C2 M2 V2 Lp2 Ws2 N := fun n h0 h1 hc => by
  obtain ⟨a1, a2, a3, a4, a5, a6⟩ := h n h0 h1 hc
  obtain ⟨b1, b2, b3, b4, b5, b6⟩ := h2 n h0 (by omega) (by omega)
  exact ⟨by omega, by omega, by omega, by omega, by omega, by omega⟩
theorem sm_PS_at {so C M V Lp Ws so' C' M' V' Lp' Ws' : Int → Int} {N : Int} (h : sm_PS so C M V Lp Ws so' C' M' V' Lp' Ws' N) (n : Int) (h0 : 0 ≤ n) (h1 : n < N) (hc : ¬ C n = 0) : C' n = C n ∧ M' n = M n ∧ V' n = V n ∧ Lp' n = Lp n ∧ Ws' n = Ws n ∧ so' n = so n := h n h0 h1 hc
theorem sm_PS_ex {so C M V Lp Ws so' C' M' V' Lp' Ws' : Int → Int} {N N' k e m v : Int} (h : sm_PS so C M V Lp Ws so' C' M' V' Lp' Ws' N) (h2 : sm_ex C M V N k e m v) (hN : N ≤ N') (hk : ¬ k = 0) : sm_ex C' M' V' N' k e m v ∧ so' e = so e ∧ Lp' e = Lp e ∧ Ws' e = Ws e := by
  obtain ⟨a0, a1, a2, a3, a4⟩ := h2
  obtain ⟨b1, b2, b3, b4, b5, b6⟩ := h e a0 a1 (by omega)
  exact ⟨⟨a0, by omega, by omega, by omega, by omega⟩, b6, b4, b5⟩
theorem sm_PS_li {so C M V Lp Ws so' C' M' V' Lp' Ws' : Int → Int} {N N' k e m v : Int} (h : sm_PS so C M V Lp Ws so' C' M' V' Lp' Ws' N) (h2 : sm_li C M V N k e m v) (hN : N ≤ N') (hk : ¬ k = 0) : sm_li C' M' V' N' k e m v := h2.imp id (fun q => (sm_PS_ex h q hN hk).1)
theorem sm_PS_sx {so C M V Lp Ws so' C' M' V' Lp' Ws' : Int → Int} {N N' k e m v l w : Int} (h : sm_PS so C M V Lp Ws so' C' M' V' Lp' Ws' N) (h2 : sm_sx C M V Lp Ws N k e m v l w) (hN : N ≤ N') (hk : ¬ k = 0) : sm_sx C' M' V' Lp' Ws' N' k e m v l w := by
  obtain ⟨a1, a2, a3, a4⟩ := sm_PS_ex h h2.1 hN hk
  exact ⟨a1, by have := h2.2.1; omega, by have := h2.2.2; omega⟩
theorem sm_PS_sl {so C M V Lp Ws so' C' M' V' Lp' Ws' : Int → Int} {N N' k e m v l w : Int} (h : sm_PS so C M V Lp Ws so' C' M' V' Lp' Ws' N) (h2 : sm_sl C M V Lp Ws N k e m v l w) (hN : N ≤ N') (hk : ¬ k = 0) : sm_sl C' M' V' Lp' Ws' N' k e m v l w := h2.imp id (fun q => sm_PS_sx h q hN hk)
theorem sm_ex_i {C M V : Int → Int} {N k e m v : Int} (h0 : 0 ≤ e) (h1 : e < N) (h2 : C e = k) (h3 : M e ≤ m) (h4 : V e ≤ v) : sm_ex C M V N k e m v := ⟨h0, h1, h2, h3, h4⟩
theorem sm_ex_e {C M V : Int → Int} {N k e m v : Int} (h : sm_ex C M V N k e m v) : 0 ≤ e ∧ e < N ∧ C e = k ∧ M e ≤ m ∧ V e ≤ v := h
theorem sm_ex_w {C M V : Int → Int} {N k e m v m' v' : Int} (h : sm_ex C M V N k e m v) (hm : m ≤ m') (hv : v ≤ v') : sm_ex C M V N k e m' v' := ⟨h.1, h.2.1, h.2.2.1, by have := h.2.2.2.1; omega, by have := h.2.2.2.2; omega⟩
theorem sm_WF_0 {so wo ne C M V Lp Ws : Int → Int} {N ns mn : Int} {nf : Int → Prop} (h : sm_WF so wo ne C M V Lp Ws N ns mn nf) (n : Int) (hn : N ≤ n) : C n = 0 := h.2.1 n hn
/-- y may follow x in a list -/
def sm_lk (C M V Lp Ws : Int → Int) (N x y : Int) : Prop := x < y ∧ y < N ∧ 0 ≤ x ∧ C y = C x ∧ M y ≤ M x ∧ V y ≤ V x ∧ Lp y ≤ Lp x ∧ Ws y ≤ Ws x ∧ (C x = 3 ∨ C x = 6 → M y < M x) ∧ (C x = 6 → Ws x = 2 → Ws y < 2)
/-- the open lists below n are as they were -/
def sm_KL (fi la fi' la' : Int → Int) (n : Int) : Prop := ∀ l : Int, 0 ≤ l → l < n → fi' l = fi l ∧ la' l = la l
theorem sm_KL_rf {fi la : Int → Int} {n : Int} : sm_KL fi la fi la n := fun _ _ _ => ⟨rfl, rfl⟩
theorem sm_KL_tr {fi la fi' la' fi2 la2 : Int → Int} {n n' : Int} (h : sm_KL fi la fi' la' n) (h2 : sm_KL fi' la' fi2 la2 n') (hn : n ≤ n') : sm_KL fi la fi2 la2 n := fun l h0 h1 => by
  obtain ⟨a, b⟩ := h l h0 h1
  obtain ⟨c, d⟩ := h2 l h0 (by omega)
  exact ⟨by omega, by omega⟩
theorem sm_KL_at {fi la fi' la' : Int → Int} {n : Int} (h : sm_KL fi la fi' la' n) (l : Int) (h0 : 0 ≤ l) (h1 : l < n) : fi' l = fi l ∧ la' l = la l := h l h0 h1
/-- names that functions hold: unlike ones, so at most as many as there are strings -/
def sm_HD (held many : Int → Int) (nf ns : Int) : Prop := ∀ f : Int, 0 ≤ f → f < nf → f < 12 → 0 ≤ many f ∧ many f ≤ 100 ∧ (∀ i : Int, 0 ≤ i → i < many f → 0 ≤ held (100 * f + i) ∧ held (100 * f + i) < ns) ∧ (∀ i j : Int, 0 ≤ i → i < many f → 0 ≤ j → j < many f → held (100 * f + i) = held (100 * f + j) → i = j)
theorem sm_HD_le {held many : Int → Int} {nf ns : Int} (h : sm_HD held many nf ns) (f : Int) (h0 : 0 ≤ f) (h1 : f < nf) (h2 : f < 12) : 0 ≤ many f ∧ (0 ≤ ns → many f ≤ ns) := by
  obtain ⟨a, a', b, c⟩ := h f h0 h1 h2
  refine ⟨a, fun hns => ?_⟩
  have := sv_pig ns.toNat (many f).toNat (fun i => held (100 * f + i)) (fun i hi0 hi1 => by
    have := b i hi0 (by omega)
    exact ⟨this.1, by omega⟩) (fun i j a1 a2 a3 a4 a5 => c i j a1 (by omega) a3 (by omega) a5)
  omega
theorem sm_HD_add {held held' many many' : Int → Int} {nf ns f x : Int} (h : sm_HD held many nf ns) (hf : 0 ≤ f ∧ f < 12) (hx : 0 ≤ x ∧ x < ns) (hn : ∀ k : Int, 0 ≤ k → k < many f → ¬ held (100 * f + k) = x) (hm : 0 ≤ many f ∧ many f < 100)
    (e1 : ∀ i : Int, held' i = if i = 100 * f + many f then x else held i) (e2 : ∀ i : Int, many' i = if i = f then many f + 1 else many i) : sm_HD held' many' nf ns := by
  intro g g0 g1 g2
  obtain ⟨a, a', b, c⟩ := h g g0 g1 g2
  by_cases hg : g = f
  · subst hg
    rw [e2, if_pos rfl]
    have k1 : ∀ i : Int, i < many g → held' (100 * g + i) = held (100 * g + i) := fun i hi => by rw [e1, if_neg (by omega)]
    have k2 : held' (100 * g + many g) = x := by rw [e1, if_pos rfl]
    refine ⟨by omega, by omega, fun i i0 i1 => ?_, fun i j i0 i1 j0 j1 hij => ?_⟩
    · by_cases hi : i = many g
      · rw [hi, k2]; exact hx
      · rw [k1 i (by omega)]; exact b i i0 (by omega)
    · by_cases hi : i = many g <;> by_cases hj : j = many g
      · omega
      · rw [hi, k2, k1 j (by omega)] at hij
        exact absurd hij.symm (hn j j0 (by omega))
      · rw [hj, k2, k1 i (by omega)] at hij
        exact absurd hij (hn i i0 (by omega))
      · rw [k1 i (by omega), k1 j (by omega)] at hij
        exact c i j i0 (by omega) j0 (by omega) hij
  · rw [e2, if_neg hg]
    have k1 : ∀ i : Int, 0 ≤ i → i < many g → held' (100 * g + i) = held (100 * g + i) := fun i i0 i1 => by rw [e1, if_neg (by omega)]
    exact ⟨a, a', fun i i0 i1 => by rw [k1 i i0 i1]; exact b i i0 i1, fun i j i0 i1 j0 j1 hij => by rw [k1 i i0 i1, k1 j j0 j1] at hij; exact c i j i0 i1 j0 j1 hij⟩
/-- a list ends for good -/
theorem sm_WF_stop {so wo ne C M V Lp Ws : Int → Int} {N ns mn : Int} {nf : Int → Prop} (h : sm_WF so wo ne C M V Lp Ws N ns mn nf) (x : Int) : sm_WF so wo (fun j => if j = x then -1 else ne j) C M V Lp Ws N ns mn nf := by
  have A : sm_ag so wo C M V Lp Ws so wo C M V Lp Ws N N := ⟨by omega, fun e h0 h3 _ => ⟨rfl, rfl, rfl, rfl, rfl, rfl, rfl, rfl, rfl, rfl, rfl⟩⟩
  obtain ⟨a1, a2, a3⟩ := h
  refine ⟨fun n h0 h3 => ?_, a2, a3⟩
  by_cases hc : C n = 0
  · exact ⟨by omega, by omega, fun q => by omega, fun q => by omega, ⟨fun q => by omega, fun q => by omega, fun q => by omega, fun q => by omega⟩, fun q => by omega, sm_xn_0 hc⟩
  · refine sm_wn_mono A (Int.le_refl _) id (fun _ q => q) h0 h3 hc (a1 n h0 h3) ?_
    by_cases hn : n = x
    · subst hn; rw [if_pos rfl]; exact Or.inr (Or.inl rfl)
    · rw [if_neg hn]; exact Or.inl rfl
/-- node(): the rows behind it -/
theorem sm_WF_put {so wo ne C M V Lp Ws : Int → Int} {N ns mn : Int} {nf : Int → Prop} {a b c d e s n0 : Int} (h : sm_WF so wo ne C M V Lp Ws N ns mn nf) : sm_WF (fun j => if j = N then s else so j) (fun j => if j = 5 * N + 4 then e else if j = 5 * N + 3 then d else if j = 5 * N + 2 then c else if j = 5 * N + 1 then b else if j = 5 * N then a else wo j) (fun j => if j = N then n0 else ne j) C M V Lp Ws (N + 1) ns mn nf :=
  sm_WF_node h (fun n hn => ⟨if_neg (by omega), if_neg (by omega)⟩) (fun n hn => by rw [if_neg (by omega), if_neg (by omega), if_neg (by omega), if_neg (by omega), if_neg (by omega)])
/-- add(): the next one -/
theorem sm_WF_addn {so wo ne C M V Lp Ws : Int → Int} {N ns mn : Int} {nf : Int → Prop} {x y f : Int} (h : sm_WF so wo ne C M V Lp Ws N ns mn nf) (hf : ¬ f = -1) (hq : f = -1 ∨ sm_lk C M V Lp Ws N x y ∨ y = -1) : sm_WF so wo (fun j => if j = x then y else ne j) C M V Lp Ws N ns mn nf := by
  rcases hq with q | q | q
  · exact absurd q hf
  · exact sm_WF_next h x y ⟨q.1, q.2.1, q.2.2.1, q.2.2.2⟩
  · subst q; exact sm_WF_stop h x
theorem sm_c1_mono {so wo C M V Lp Ws C' M' V' Lp' Ws' : Int → Int} {N ns mn : Int} {nf : Int → Prop} {n m v : Int} (A : sm_ag so wo C M V Lp Ws so wo C' M' V' Lp' Ws' N N) (h : sm_c1 so wo C M V N ns mn nf n m v) : sm_c1 so wo C' M' V' N ns mn nf n m v := by
  unfold sm_c1 at *
  obtain ⟨a0, a1, a2, a3, a4, a5, a6, a7, a8, a9, a10, a11, a12, a13, a14, a15, a16⟩ := h
  have X : ∀ {k e m v : Int}, ¬ k = 0 → sm_ex C M V N k e m v → sm_ex C' M' V' N k e m v := fun hk q => sm_ex_mono A hk q
  have Y : ∀ {k e m v : Int}, ¬ k = 0 → sm_li C M V N k e m v → sm_li C' M' V' N k e m v := fun hk q => sm_li_mono A hk q
  have o : ¬ (1 : Int) = 0 := by decide
  have o3 : ¬ (3 : Int) = 0 := by decide
  have o4 : ¬ (4 : Int) = 0 := by decide
  refine ⟨a0, a1, a2, a3, fun q => ?_, fun q => Y o3 (a5 q), fun q => Y o4 (a6 q), a7, fun q => ?_, fun q => ?_, fun q => ?_, fun q => ?_, fun q => ?_, fun q => ?_, fun q => ?_, fun q => ?_, fun q => ?_⟩
  · have b := a4 q; exact ⟨X o b.1, b.2.1, X o b.2.2⟩
  · have b := a8 q; exact ⟨X o b.1, b.2.1, X o b.2.2.1, b.2.2.2⟩
  · have b := a9 q; exact ⟨X o b.1, b.2.1, Y o3 b.2.2⟩
  · have b := a10 q; exact ⟨X o b.1, b.2.1, Y o3 b.2.2⟩
  · have b := a11 q; exact ⟨b.1, b.2.1, X o b.2.2.1, b.2.2.2⟩
  · have b := a12 q; exact ⟨X o b.1, b.2.1, X o b.2.2.1, b.2.2.2⟩
  · have b := a13 q; exact ⟨X o b.1, b.2.1, X o b.2.2⟩
  · have b := a14 q; exact ⟨X o b.1, X o b.2.1, X o b.2.2⟩
  · have b := a15 q; exact ⟨b.1, b.2.1, X o b.2.2.1, b.2.2.2.1, b.2.2.2.2.1, X o b.2.2.2.2.2⟩
  · have b := a16 q; exact ⟨b.1, b.2.1, X o b.2.2.1, b.2.2.2⟩
/-- an expression's node gets its class; nothing else changes -/
theorem sm_mk1 {so wo ne C M V Lp Ws : Int → Int} {N ns mn : Int} {nf : Int → Prop} {r k m v l w : Int} (h : sm_WF so wo ne C M V Lp Ws N ns mn nf) (hr : C r = 0) (h0 : 0 ≤ r) (h1 : r < N) (hn : ne r = -1) (hk : k = 0 ∨ (k = 1 ∧ sm_c1 so wo C M V N ns mn nf r m v)) (hx : 0 ≤ m ∧ (so r = 3 → wo (5 * r + 1) < r) ∧ (so r = 4 ∨ so r = 5 ∨ so r = 8 ∨ so r = 9 → 17 * v + 2 ≤ m) ∧ 0 ≤ v) :
    sm_WF so wo ne (fun i' : Int => if i' = r then k else C i') (fun i' : Int => if i' = r then m else M i') (fun i' : Int => if i' = r then v else V i') (fun i' : Int => if i' = r then l else Lp i') (fun i' : Int => if i' = r then w else Ws i') N ns mn nf ∧
    sm_PS so C M V Lp Ws so (fun i' : Int => if i' = r then k else C i') (fun i' : Int => if i' = r then m else M i') (fun i' : Int => if i' = r then v else V i') (fun i' : Int => if i' = r then l else Lp i') (fun i' : Int => if i' = r then w else Ws i') N := by
  refine ⟨sm_WF_mark h r k m v l w h0 h1 hr hn ?_, fun n n0 n1 hc => ?_⟩
  · have A : sm_ag so wo C M V Lp Ws so wo (fun j => if j = r then k else C j) (fun j => if j = r then m else M j) (fun j => if j = r then v else V j) (fun j => if j = r then l else Lp j) (fun j => if j = r then w else Ws j) N N := ⟨by omega, fun e h2 h3 hc => by
      have hne : ¬ e = r := fun q => hc (by rw [q]; exact hr)
      exact ⟨if_neg hne, if_neg hne, if_neg hne, if_neg hne, if_neg hne, rfl, rfl, rfl, rfl, rfl, rfl⟩⟩
    have e1 : (if r = r then k else C r) = k := if_pos rfl
    have e2 : (if r = r then m else M r) = m := if_pos rfl
    have e3 : (if r = r then v else V r) = v := if_pos rfl
    have hw1 : k = 1 → sm_w1 so wo (fun j => if j = r then k else C j) (fun j => if j = r then m else M j) (fun j => if j = r then v else V j) N ns mn nf r := fun q => by
      rcases hk with hk | hk
      · omega
      · unfold sm_w1
        dsimp only
        rw [e2, e3]
        exact sm_c1_mono A hk.2
    refine ⟨?_, ?_, fun q => hw1 (by dsimp only at q; omega), fun q => ?_, ⟨fun q => ?_, fun q => ?_, fun q => ?_, fun q => ?_⟩, fun q => ?_, ⟨fun q => ?_, fun q => ?_, fun q => ?_, fun q => ?_⟩⟩ <;> first | (dsimp only; omega) | (dsimp only at q; omega) | (dsimp only; rw [e2, e3]; exact hx)
  · have hne : ¬ n = r := fun q => hc (by rw [q]; exact hr)
    exact ⟨if_neg hne, if_neg hne, if_neg hne, if_neg hne, if_neg hne, rfl⟩
theorem sm_c1_0 {so wo C M V : Int → Int} {N ns mn : Int} {nf : Int → Prop} {n m v : Int} (h : so n = 0) (c1 : 0 ≤ wo (5 * n) ∧ wo (5 * n) ≤ 6) (c2 : wo (5 * n) = 6 → sm_nm ns mn (wo (5 * n + 1))) : sm_c1 so wo C M V N ns mn nf n m v := ⟨by omega, by omega, fun _ => ⟨c1.1, c1.2, c2⟩, fun q => by omega, fun q => by omega, fun q => by omega, fun q => by omega, fun q => by omega, fun q => by omega, fun q => by omega, fun q => by omega, fun q => by omega, fun q => by omega, fun q => by omega, fun q => by omega, fun q => by omega, fun q => by omega⟩
theorem sm_c1_1 {so wo C M V : Int → Int} {N ns mn : Int} {nf : Int → Prop} {n m v : Int} (h : so n = 1)  : sm_c1 so wo C M V N ns mn nf n m v := ⟨by omega, by omega, fun q => by omega, fun q => by omega, fun q => by omega, fun q => by omega, fun q => by omega, fun q => by omega, fun q => by omega, fun q => by omega, fun q => by omega, fun q => by omega, fun q => by omega, fun q => by omega, fun q => by omega, fun q => by omega, fun q => by omega⟩
theorem sm_c1_2 {so wo C M V : Int → Int} {N ns mn : Int} {nf : Int → Prop} {n m v : Int} (h : so n = 2) (c1 : sm_nm ns mn (wo (5 * n))) : sm_c1 so wo C M V N ns mn nf n m v := ⟨by omega, by omega, fun q => by omega, fun _ => c1, fun q => by omega, fun q => by omega, fun q => by omega, fun q => by omega, fun q => by omega, fun q => by omega, fun q => by omega, fun q => by omega, fun q => by omega, fun q => by omega, fun q => by omega, fun q => by omega, fun q => by omega⟩
theorem sm_c1_3 {so wo C M V : Int → Int} {N ns mn : Int} {nf : Int → Prop} {n m v : Int} (h : so n = 3) (c1 : sm_ex C M V N 1 (wo (5 * n)) m v) (c2 : wo (5 * n) < n) (c3 : sm_ex C M V N 1 (wo (5 * n + 1)) m v) : sm_c1 so wo C M V N ns mn nf n m v := ⟨by omega, by omega, fun q => by omega, fun q => by omega, fun _ => ⟨c1, c2, c3⟩, fun q => by omega, fun q => by omega, fun q => by omega, fun q => by omega, fun q => by omega, fun q => by omega, fun q => by omega, fun q => by omega, fun q => by omega, fun q => by omega, fun q => by omega, fun q => by omega⟩
theorem sm_c1_4 {so wo C M V : Int → Int} {N ns mn : Int} {nf : Int → Prop} {n m v : Int} (h : so n = 4) (c1 : sm_li C M V N 3 (wo (5 * n)) 16 (v - 1)) : sm_c1 so wo C M V N ns mn nf n m v := ⟨by omega, by omega, fun q => by omega, fun q => by omega, fun q => by omega, fun _ => c1, fun q => by omega, fun q => by omega, fun q => by omega, fun q => by omega, fun q => by omega, fun q => by omega, fun q => by omega, fun q => by omega, fun q => by omega, fun q => by omega, fun q => by omega⟩
theorem sm_c1_5 {so wo C M V : Int → Int} {N ns mn : Int} {nf : Int → Prop} {n m v : Int} (h : so n = 5) (c1 : sm_li C M V N 4 (wo (5 * n)) (m - 2) (v - 1)) : sm_c1 so wo C M V N ns mn nf n m v := ⟨by omega, by omega, fun q => by omega, fun q => by omega, fun q => by omega, fun q => by omega, fun _ => c1, fun q => by omega, fun q => by omega, fun q => by omega, fun q => by omega, fun q => by omega, fun q => by omega, fun q => by omega, fun q => by omega, fun q => by omega, fun q => by omega⟩
theorem sm_c1_6 {so wo C M V : Int → Int} {N ns mn : Int} {nf : Int → Prop} {n m v : Int} (h : so n = 6) (c1 : 1 ≤ wo (5 * n)) (c2 : nf (wo (5 * n))) : sm_c1 so wo C M V N ns mn nf n m v := ⟨by omega, by omega, fun q => by omega, fun q => by omega, fun q => by omega, fun q => by omega, fun q => by omega, fun _ => ⟨c1, c2⟩, fun q => by omega, fun q => by omega, fun q => by omega, fun q => by omega, fun q => by omega, fun q => by omega, fun q => by omega, fun q => by omega, fun q => by omega⟩
theorem sm_c1_7 {so wo C M V : Int → Int} {N ns mn : Int} {nf : Int → Prop} {n m v : Int} (h : so n = 7) (c1 : sm_ex C M V N 1 (wo (5 * n)) m v) (c2 : wo (5 * n) < n) (c3 : sm_ex C M V N 1 (wo (5 * n + 1)) (m - 1) v) (c4 : wo (5 * n + 1) < n) : sm_c1 so wo C M V N ns mn nf n m v := ⟨by omega, by omega, fun q => by omega, fun q => by omega, fun q => by omega, fun q => by omega, fun q => by omega, fun q => by omega, fun _ => ⟨c1, c2, c3, c4⟩, fun q => by omega, fun q => by omega, fun q => by omega, fun q => by omega, fun q => by omega, fun q => by omega, fun q => by omega, fun q => by omega⟩
theorem sm_c1_8 {so wo C M V : Int → Int} {N ns mn : Int} {nf : Int → Prop} {n m v : Int} (h : so n = 8) (c1 : sm_ex C M V N 1 (wo (5 * n)) m v) (c2 : wo (5 * n) < n) (c3 : sm_li C M V N 3 (wo (5 * n + 1)) 8 (v - 1)) : sm_c1 so wo C M V N ns mn nf n m v := ⟨by omega, by omega, fun q => by omega, fun q => by omega, fun q => by omega, fun q => by omega, fun q => by omega, fun q => by omega, fun q => by omega, fun _ => ⟨c1, c2, c3⟩, fun q => by omega, fun q => by omega, fun q => by omega, fun q => by omega, fun q => by omega, fun q => by omega, fun q => by omega⟩
theorem sm_c1_9 {so wo C M V : Int → Int} {N ns mn : Int} {nf : Int → Prop} {n m v : Int} (h : so n = 9) (c1 : sm_ex C M V N 1 (wo (5 * n)) (m - 2) v) (c2 : wo (5 * n) < n) (c3 : sm_li C M V N 3 (wo (5 * n + 1)) 8 (v - 1)) : sm_c1 so wo C M V N ns mn nf n m v := ⟨by omega, by omega, fun q => by omega, fun q => by omega, fun q => by omega, fun q => by omega, fun q => by omega, fun q => by omega, fun q => by omega, fun q => by omega, fun _ => ⟨c1, c2, c3⟩, fun q => by omega, fun q => by omega, fun q => by omega, fun q => by omega, fun q => by omega, fun q => by omega⟩
theorem sm_c1_10 {so wo C M V : Int → Int} {N ns mn : Int} {nf : Int → Prop} {n m v : Int} (h : so n = 10) (c0 : 0 ≤ wo (5 * n) ∧ wo (5 * n) ≤ 6) (c1 : sm_ex C M V N 1 (wo (5 * n + 1)) (m - 3) v) (c2 : wo (5 * n + 1) < n) (c3 : wo (5 * n) = 6 → so (wo (5 * n + 1)) = 7) : sm_c1 so wo C M V N ns mn nf n m v := ⟨by omega, by omega, fun q => by omega, fun q => by omega, fun q => by omega, fun q => by omega, fun q => by omega, fun q => by omega, fun q => by omega, fun q => by omega, fun q => by omega, fun _ => ⟨c0.1, c0.2, c1, c2, c3⟩, fun q => by omega, fun q => by omega, fun q => by omega, fun q => by omega, fun q => by omega⟩
theorem sm_c1_11 {so wo C M V : Int → Int} {N ns mn : Int} {nf : Int → Prop} {n m v : Int} (h : so n = 11) (c0 : 0 ≤ wo (5 * n) ∧ wo (5 * n) ≤ 20) (c1 : sm_ex C M V N 1 (wo (5 * n + 1)) m v) (c2 : wo (5 * n + 1) < n) (c3 : sm_ex C M V N 1 (wo (5 * n + 2)) (m - 1) v) : sm_c1 so wo C M V N ns mn nf n m v := ⟨by omega, by omega, fun q => by omega, fun q => by omega, fun q => by omega, fun q => by omega, fun q => by omega, fun q => by omega, fun q => by omega, fun q => by omega, fun q => by omega, fun q => by omega, fun _ => ⟨c1, c2, c3, c0.1, c0.2⟩, fun q => by omega, fun q => by omega, fun q => by omega, fun q => by omega⟩
theorem sm_c1_14 {so wo C M V : Int → Int} {N ns mn : Int} {nf : Int → Prop} {n m v : Int} (h : so n = 14) (c1 : sm_ex C M V N 1 (wo (5 * n)) (m - 2) v) (c2 : sm_ex C M V N 1 (wo (5 * n + 1)) (m - 2) v) (c3 : sm_ex C M V N 1 (wo (5 * n + 2)) (m - 2) v) : sm_c1 so wo C M V N ns mn nf n m v := ⟨by omega, by omega, fun q => by omega, fun q => by omega, fun q => by omega, fun q => by omega, fun q => by omega, fun q => by omega, fun q => by omega, fun q => by omega, fun q => by omega, fun q => by omega, fun q => by omega, fun q => by omega, fun _ => ⟨c1, c2, c3⟩, fun q => by omega, fun q => by omega⟩
theorem sm_c1_15 {so wo C M V : Int → Int} {N ns mn : Int} {nf : Int → Prop} {n m v : Int} (h : so n = 15) (c0 : -1 ≤ wo (5 * n) ∧ wo (5 * n) ≤ 10) (c1 : sm_ex C M V N 1 (wo (5 * n + 1)) (m - 3) v) (c2 : wo (5 * n + 1) < n) (c3 : so (wo (5 * n + 1)) = 2 ∨ so (wo (5 * n + 1)) = 7) (c4 : sm_ex C M V N 1 (wo (5 * n + 2)) (m - 3) (v - 1)) : sm_c1 so wo C M V N ns mn nf n m v := ⟨by omega, by omega, fun q => by omega, fun q => by omega, fun q => by omega, fun q => by omega, fun q => by omega, fun q => by omega, fun q => by omega, fun q => by omega, fun q => by omega, fun q => by omega, fun q => by omega, fun q => by omega, fun q => by omega, fun _ => ⟨c0.1, c0.2, c1, c2, c3, c4⟩, fun q => by omega⟩
theorem sm_c1_12 {so wo C M V : Int → Int} {N ns mn : Int} {nf : Int → Prop} {n m v : Int} (h : so n = 12) (c1 : sm_ex C M V N 1 (wo (5 * n)) m v) (c2 : wo (5 * n) < n) (c3 : sm_ex C M V N 1 (wo (5 * n + 1)) (m - 1) v) : sm_c1 so wo C M V N ns mn nf n m v := ⟨by omega, by omega, fun q => by omega, fun q => by omega, fun q => by omega, fun q => by omega, fun q => by omega, fun q => by omega, fun q => by omega, fun q => by omega, fun q => by omega, fun q => by omega, fun q => by omega, fun _ => ⟨c1, c2, c3⟩, fun q => by omega, fun q => by omega, fun q => by omega⟩
theorem sm_c1_13 {so wo C M V : Int → Int} {N ns mn : Int} {nf : Int → Prop} {n m v : Int} (h : so n = 13) (c1 : sm_ex C M V N 1 (wo (5 * n)) m v) (c2 : wo (5 * n) < n) (c3 : sm_ex C M V N 1 (wo (5 * n + 1)) (m - 1) v) : sm_c1 so wo C M V N ns mn nf n m v := ⟨by omega, by omega, fun q => by omega, fun q => by omega, fun q => by omega, fun q => by omega, fun q => by omega, fun q => by omega, fun q => by omega, fun q => by omega, fun q => by omega, fun q => by omega, fun q => by omega, fun _ => ⟨c1, c2, c3⟩, fun q => by omega, fun q => by omega, fun q => by omega⟩
theorem sm_c1_16 {so wo C M V : Int → Int} {N ns mn : Int} {nf : Int → Prop} {n m v : Int} (h : so n = 16) (c0 : 0 ≤ wo (5 * n) ∧ wo (5 * n) ≤ 1) (c1 : sm_ex C M V N 1 (wo (5 * n + 1)) (m - 3) v) (c2 : wo (5 * n + 1) < n) (c3 : so (wo (5 * n + 1)) = 2 ∨ so (wo (5 * n + 1)) = 7) : sm_c1 so wo C M V N ns mn nf n m v := ⟨by omega, by omega, fun q => by omega, fun q => by omega, fun q => by omega, fun q => by omega, fun q => by omega, fun q => by omega, fun q => by omega, fun q => by omega, fun q => by omega, fun q => by omega, fun q => by omega, fun q => by omega, fun q => by omega, fun q => by omega, fun _ => ⟨c0.1, c0.2, c1, c2, c3⟩⟩
theorem sm_c1_17 {so wo C M V : Int → Int} {N ns mn : Int} {nf : Int → Prop} {n m v : Int} (h : so n = 17) (c0 : 0 ≤ wo (5 * n) ∧ wo (5 * n) ≤ 1) (c1 : sm_ex C M V N 1 (wo (5 * n + 1)) (m - 3) v) (c2 : wo (5 * n + 1) < n) (c3 : so (wo (5 * n + 1)) = 2 ∨ so (wo (5 * n + 1)) = 7) : sm_c1 so wo C M V N ns mn nf n m v := ⟨by omega, by omega, fun q => by omega, fun q => by omega, fun q => by omega, fun q => by omega, fun q => by omega, fun q => by omega, fun q => by omega, fun q => by omega, fun q => by omega, fun q => by omega, fun q => by omega, fun q => by omega, fun q => by omega, fun q => by omega, fun _ => ⟨c0.1, c0.2, c1, c2, c3⟩⟩
theorem sm_GD_add {gn : Int → Int} {m ns x : Int} (h : sm_HD gn (fun _ : Int => m) 1 ns) (hx : 0 ≤ x ∧ x < ns) (hn : ∀ k : Int, 0 ≤ k → k < m → ¬ gn k = x) (hm : 0 ≤ m ∧ m < 100) : sm_HD (fun i' : Int => if i' = m then x else gn i') (fun _ : Int => m + 1) 1 ns := by
  have h2 := sm_HD_add (held' := fun i' : Int => if i' = m then x else gn i') (many' := fun i : Int => if i = 0 then m + 1 else m) (f := 0) (x := x) h ⟨by omega, by omega⟩ hx (fun k h0 h1 => by have := hn k h0 h1; rw [show (100 * (0 : Int) + k) = k by omega]; exact this) hm (fun i => by simp) (fun i => rfl)
  intro f f0 f1 f2
  have hf : f = 0 := by omega
  subst hf
  have h3 := h2 0 f0 f1 f2
  simpa using h3
/-- an item's node gets its class -/
theorem sm_mk3 {so wo ne C M V Lp Ws : Int → Int} {N ns mn : Int} {nf : Int → Prop} {r k m v l w : Int} (h : sm_WF so wo ne C M V Lp Ws N ns mn nf) (hr : C r = 0) (h0 : 0 ≤ r) (h1 : r < N) (hn : ne r = -1)
    (hk : k = 0 ∨ (k = 3 ∧ sm_ex C M V N 1 (wo (5 * r)) (17 * v + 17) v ∧ 1 ≤ m) ∨ (k = 4 ∧ sm_ex C M V N 1 (wo (5 * r)) m v ∧ sm_nm ns mn (wo (5 * r + 1))) ∨ (k = 5 ∧ sm_li C M V N 1 (wo (5 * r)) m v ∧ sm_nm ns mn (wo (5 * r + 1)))) :
    sm_WF so wo ne (fun i' : Int => if i' = r then k else C i') (fun i' : Int => if i' = r then m else M i') (fun i' : Int => if i' = r then v else V i') (fun i' : Int => if i' = r then l else Lp i') (fun i' : Int => if i' = r then w else Ws i') N ns mn nf ∧
    sm_PS so C M V Lp Ws so (fun i' : Int => if i' = r then k else C i') (fun i' : Int => if i' = r then m else M i') (fun i' : Int => if i' = r then v else V i') (fun i' : Int => if i' = r then l else Lp i') (fun i' : Int => if i' = r then w else Ws i') N := by
  have A : sm_ag so wo C M V Lp Ws so wo (fun j => if j = r then k else C j) (fun j => if j = r then m else M j) (fun j => if j = r then v else V j) (fun j => if j = r then l else Lp j) (fun j => if j = r then w else Ws j) N N := ⟨by omega, fun e h2 h3 hc => by
    have hne : ¬ e = r := fun q => hc (by rw [q]; exact hr)
    exact ⟨if_neg hne, if_neg hne, if_neg hne, if_neg hne, if_neg hne, rfl, rfl, rfl, rfl, rfl, rfl⟩⟩
  have e1 : (if r = r then k else C r) = k := if_pos rfl
  have e2 : (if r = r then m else M r) = m := if_pos rfl
  have e3 : (if r = r then v else V r) = v := if_pos rfl
  have o : ¬ (1 : Int) = 0 := by decide
  refine ⟨sm_WF_mark h r k m v l w h0 h1 hr hn ⟨?_, ?_, fun q => ?_, fun q => ?_, ⟨fun q => ?_, fun q => ?_, fun q => ?_, fun q => ?_⟩, fun q => ?_, ⟨fun q => ?_, fun q => ?_, fun q => ?_, fun q => ?_⟩⟩, fun n n0 n1 hc => ?_⟩
  · dsimp only; omega
  · dsimp only; omega
  · dsimp only at q; omega
  · dsimp only at q; omega
  · dsimp only at q ⊢
    rw [e3]
    rcases hk with hk | hk | hk | hk
    · omega
    · exact sm_ex_mono A o hk.2.1
    · omega
    · omega
  · dsimp only at q ⊢
    rw [e2, e3]
    rcases hk with hk | hk | hk | hk
    · omega
    · omega
    · exact ⟨sm_ex_mono A o hk.2.1, hk.2.2⟩
    · omega
  · dsimp only at q ⊢
    rw [e2, e3]
    rcases hk with hk | hk | hk | hk
    · omega
    · omega
    · omega
    · exact ⟨sm_li_mono A o hk.2.1, hk.2.2⟩
  · dsimp only at q; omega
  · exact Or.inl hn
  · dsimp only at q; omega
  · dsimp only at q; omega
  · dsimp only at q; omega
  · dsimp only at q ⊢; rw [e2]; omega
  · have hne : ¬ n = r := fun q => hc (by rw [q]; exact hr)
    exact ⟨if_neg hne, if_neg hne, if_neg hne, if_neg hne, if_neg hne, rfl⟩
theorem sm_PS_le {so C M V Lp Ws so' C' M' V' Lp' Ws' : Int → Int} {N N' : Int} (h : sm_PS so C M V Lp Ws so' C' M' V' Lp' Ws' N') (hN : N ≤ N') : sm_PS so C M V Lp Ws so' C' M' V' Lp' Ws' N := fun n h0 h1 hc => h n h0 (by omega) hc
theorem sm_KL_le {fi la fi' la' : Int → Int} {n n' : Int} (h : sm_KL fi la fi' la' n') (hn : n ≤ n') : sm_KL fi la fi' la' n := fun l h0 h1 => h l h0 (by omega)
theorem sm_ex_eq {C M V : Int → Int} {N k e e' m v : Int} (h : e' = e) (h2 : sm_ex C M V N k e m v) : sm_ex C M V N k e' m v := h ▸ h2

