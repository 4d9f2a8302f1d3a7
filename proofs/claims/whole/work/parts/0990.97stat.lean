
/-! STATEMENTS: regions, what is wrapped, potentials -/
/-- region q is x, or lies in it -/
def sm_UR (R : Int → Int) (q x : Int) : Prop := if h : 0 ≤ q ∧ R q < q then (q = x ∨ sm_UR R (R q) x) else q = x
termination_by (q + 1).toNat
decreasing_by omega
theorem sm_UR_s {R : Int → Int} {q x : Int} (h : 0 ≤ q ∧ R q < q) : sm_UR R q x ↔ (q = x ∨ sm_UR R (R q) x) := by
  rw [sm_UR.eq_def R q x, dif_pos h]
theorem sm_UR_n {R : Int → Int} {q x : Int} (h : ¬ (0 ≤ q ∧ R q < q)) : sm_UR R q x ↔ q = x := by
  rw [sm_UR.eq_def R q x, dif_neg h]
theorem sm_UR_rf {R : Int → Int} {q : Int} : sm_UR R q q := by
  by_cases c : 0 ≤ q ∧ R q < q
  · exact (sm_UR_s c).mpr (Or.inl rfl)
  · exact (sm_UR_n c).mpr rfl
theorem sm_UR_L {R : Int → Int} {x : Int} : ∀ (j : Nat) (q : Int), (q + 1).toNat = j → sm_UR R q x → x ≤ q := by
  intro j
  induction j using Nat.strongRecOn with
  | ind j ih =>
    intro q hq h
    by_cases c : 0 ≤ q ∧ R q < q
    · rcases (sm_UR_s c).mp h with e | e
      · omega
      · have := ih _ (by omega) (R q) rfl e
        omega
    · have := (sm_UR_n c).mp h
      omega
theorem sm_UR_le {R : Int → Int} {q x : Int} (h : sm_UR R q x) : x ≤ q := sm_UR_L _ q rfl h
theorem sm_UR_T {R : Int → Int} {x y : Int} (h2 : sm_UR R x y) : ∀ (j : Nat) (q : Int), (q + 1).toNat = j → sm_UR R q x → sm_UR R q y := by
  intro j
  induction j using Nat.strongRecOn with
  | ind j ih =>
    intro q hq h
    by_cases c : 0 ≤ q ∧ R q < q
    · rcases (sm_UR_s c).mp h with e | e
      · rw [e]; exact h2
      · exact (sm_UR_s c).mpr (Or.inr (ih _ (by omega) (R q) rfl e))
    · have e := (sm_UR_n c).mp h
      rw [e]; exact h2
theorem sm_UR_tr {R : Int → Int} {q x y : Int} (h : sm_UR R q x) (h2 : sm_UR R x y) : sm_UR R q y := sm_UR_T h2 _ q rfl h
/-- the try T lies in region q: what lies in T's finally lies in q -/
theorem sm_UR_in {R : Int → Int} {q T : Int} (h0 : 0 ≤ T) (h : R T = q) (h1 : q < T) : sm_UR R T q := (sm_UR_s ⟨h0, by omega⟩).mpr (Or.inr (by rw [h]; exact sm_UR_rf))
section CA
variable {Wr Wa Wx R V : Int → Int}
/-- of the finallys around (from a on outwards) none holds region q; their tries have levels above v -/
def sm_CA (Wr Wa Wx R V : Int → Int) (a q v : Int) : Prop := if h : 0 ≤ a ∧ Wa a < a then ((Wr a = 1 → ¬ sm_UR R q (Wx a) ∧ v < V (Wx a)) ∧ sm_CA Wr Wa Wx R V (Wa a) q v) else True
termination_by (a + 1).toNat
decreasing_by omega
theorem sm_CA_s {a q v : Int} (h : 0 ≤ a ∧ Wa a < a) : sm_CA Wr Wa Wx R V a q v ↔ ((Wr a = 1 → ¬ sm_UR R q (Wx a) ∧ v < V (Wx a)) ∧ sm_CA Wr Wa Wx R V (Wa a) q v) := by
  rw [sm_CA.eq_def Wr Wa Wx R V a q v, dif_pos h]
theorem sm_CA_n {a q v : Int} (h : ¬ (0 ≤ a ∧ Wa a < a)) : sm_CA Wr Wa Wx R V a q v := by
  rw [sm_CA.eq_def, dif_neg h]
  trivial
/-- what follows finally by finally -/
theorem sm_CA_I {q v q' v' m : Int} {Wr' Wa' Wx' : Int → Int} (f1 : sm_F1 Wr Wr' m) (f2 : sm_F1 Wa Wa' m) (f3 : sm_F1 Wx Wx' m) (k : ∀ x : Int, ¬ sm_UR R q x → v < V x → ¬ sm_UR R q' x ∧ v' < V x) : ∀ (j : Nat) (a : Int), (a + 1).toNat = j → a < m → sm_CA Wr Wa Wx R V a q v → sm_CA Wr' Wa' Wx' R V a q' v' := by
  intro j
  induction j using Nat.strongRecOn with
  | ind j ih =>
    intro a ha hm h
    have e1 := f1 a hm
    have e2 := f2 a hm
    have e3 := f3 a hm
    by_cases c : 0 ≤ a ∧ Wa a < a
    · have z := (sm_CA_s c).mp h
      refine (sm_CA_s (by rw [e2]; exact c)).mpr ⟨fun w => ?_, ?_⟩
      · rw [e1] at w
        rw [e3]
        exact k _ (z.1 w).1 (z.1 w).2
      · rw [e2]
        exact ih _ (by omega) (Wa a) rfl (by omega) z.2
    · exact sm_CA_n (by rw [e2]; exact c)
theorem sm_CA_F {q v v' m a : Int} {Wr' Wa' Wx' : Int → Int} (h : sm_CA Wr Wa Wx R V a q v) (f1 : sm_F1 Wr Wr' m) (f2 : sm_F1 Wa Wa' m) (f3 : sm_F1 Wx Wx' m) (hm : a < m) (hv : v' ≤ v) : sm_CA Wr' Wa' Wx' R V a q v' := sm_CA_I f1 f2 f3 (fun x h1 h2 => ⟨h1, by omega⟩) _ a rfl hm h
theorem sm_CA_v {q v v' a : Int} (h : sm_CA Wr Wa Wx R V a q v) (hv : v' ≤ v) : sm_CA Wr Wa Wx R V a q v' := sm_CA_F h (m := a + 1) sm_F1_rf sm_F1_rf sm_F1_rf (by omega) hv
theorem sm_CA_o {q v a : Int} (h : sm_CA Wr Wa Wx R V a q v) (c : 0 ≤ a ∧ Wa a < a) : sm_CA Wr Wa Wx R V (Wa a) q v := ((sm_CA_s c).mp h).2
theorem sm_CA_at {q v a : Int} (h : sm_CA Wr Wa Wx R V a q v) (c : 0 ≤ a ∧ Wa a < a) (w : Wr a = 1) : ¬ sm_UR R q (Wx a) ∧ v < V (Wx a) := ((sm_CA_s c).mp h).1 w
/-- into T's finally -/
theorem sm_CA_in {q v v' a T : Int} (h : sm_CA Wr Wa Wx R V a q v) (h0 : 0 ≤ T) (hT : R T = q) (h1 : q < T) (hv : V T ≤ v) (hv2 : v' ≤ v) : sm_CA Wr Wa Wx R V a T v' := sm_CA_I (m := a + 1) sm_F1_rf sm_F1_rf sm_F1_rf (fun x w1 w2 => ⟨fun z => by
  rcases (sm_UR_s ⟨h0, by omega⟩).mp z with e | e
  · rw [← e] at w2; omega
  · rw [hT] at e; exact w1 e, by omega⟩) _ a rfl (by omega) h
/-- one more is around -/
theorem sm_CA_p {q v v' a m w : Int} {Wr' Wa' Wx' : Int → Int} (h : sm_CA Wr Wa Wx R V a q v) (f1 : sm_F1 Wr Wr' m) (f2 : sm_F1 Wa Wa' m) (f3 : sm_F1 Wx Wx' m) (hm : a < m) (hw : w = m) (h0 : 0 ≤ m) (e : Wa' w = a) (hv : v' ≤ v) (k : Wr' w = 1 → R (Wx' w) = q ∧ q < Wx' w ∧ v' < V (Wx' w)) : sm_CA Wr' Wa' Wx' R V w q v' := by
  subst hw
  refine (sm_CA_s (by omega)).mpr ⟨fun z => ?_, by rw [e]; exact sm_CA_F h f1 f2 f3 hm hv⟩
  obtain ⟨k1, k2, k3⟩ := k z
  exact ⟨fun y => by have := sm_UR_le y; omega, k3⟩
/-- the cases at work are clear of what is to be coded -/
def sm_SF (Ac Wr Wa Wx R V : Int → Int) (a q v : Int) : Prop := ∀ c : Int, 0 ≤ c → Ac c = 1 → (¬ sm_UR R (R c) q ∨ (R c = q ∧ v < V c)) ∧ sm_CA Wr Wa Wx R V a (R c) 0
variable {Ac : Int → Int}
theorem sm_SF_0 {a q v : Int} (h : ∀ c : Int, 0 ≤ c → ¬ Ac c = 1) : sm_SF Ac Wr Wa Wx R V a q v := fun c h0 h1 => absurd h1 (h c h0)
theorem sm_SF_F {Ac' : Int → Int} {q v v' m a N : Int} {Wr' Wa' Wx' : Int → Int} (h : sm_SF Ac Wr Wa Wx R V a q v) (hA : ∀ c : Int, 0 ≤ c → Ac' c = 1 → Ac c = 1) (f1 : sm_F1 Wr Wr' m) (f2 : sm_F1 Wa Wa' m) (f3 : sm_F1 Wx Wx' m) (hm : a < m) (hv : v' ≤ v) : sm_SF Ac' Wr' Wa' Wx' R V a q v' := fun c h0 h1 => by
  obtain ⟨k1, k2⟩ := h c h0 (hA c h0 h1)
  exact ⟨k1.imp id (fun z => ⟨z.1, by omega⟩), sm_CA_F k2 f1 f2 f3 hm (Int.le_refl _)⟩
theorem sm_SF_v {q v v' a : Int} (h : sm_SF Ac Wr Wa Wx R V a q v) (hv : v' ≤ v) : sm_SF Ac Wr Wa Wx R V a q v' := fun c h0 h1 => ⟨(h c h0 h1).1.imp id (fun z => ⟨z.1, by omega⟩), (h c h0 h1).2⟩
theorem sm_SF_o {q v a : Int} (h : sm_SF Ac Wr Wa Wx R V a q v) (k : 0 ≤ a ∧ Wa a < a) : sm_SF Ac Wr Wa Wx R V (Wa a) q v := fun c h0 h1 => ⟨(h c h0 h1).1, sm_CA_o (h c h0 h1).2 k⟩
theorem sm_SF_in {q v v' a T : Int} (h : sm_SF Ac Wr Wa Wx R V a q v) (h0 : 0 ≤ T) (hT : R T = q) (h1 : q < T) : sm_SF Ac Wr Wa Wx R V a T v' := fun c c0 c1 => by
  obtain ⟨k1, k2⟩ := h c c0 c1
  refine ⟨Or.inl (fun z => ?_), k2⟩
  rcases k1 with k1 | k1
  · exact k1 (sm_UR_tr z (sm_UR_in h0 hT h1))
  · rw [k1.1] at z
    have := sm_UR_le z
    omega
theorem sm_SF_lv {q v v' w : Int} (h : sm_SF Ac Wr Wa Wx R V w q v) (k : 0 ≤ w ∧ Wa w < w) (e : Wr w = 1) : sm_SF Ac Wr Wa Wx R V (Wa w) (Wx w) v' := fun c c0 c1 => ⟨Or.inl (sm_CA_at (h c c0 c1).2 k e).1, sm_CA_o (h c c0 c1).2 k⟩
theorem sm_SF_p {q v v' a m w : Int} {Wr' Wa' Wx' : Int → Int} (h : sm_SF Ac Wr Wa Wx R V a q v) (f1 : sm_F1 Wr Wr' m) (f2 : sm_F1 Wa Wa' m) (f3 : sm_F1 Wx Wx' m) (hm : a < m) (hw : w = m) (h0 : 0 ≤ m) (e : Wa' w = a) (hv : v' ≤ v) (k : Wr' w = 1 → 0 ≤ Wx' w ∧ R (Wx' w) = q ∧ q < Wx' w ∧ 0 < V (Wx' w)) : sm_SF Ac Wr' Wa' Wx' R V w q v' := fun c c0 c1 => by
  subst hw
  obtain ⟨k1, k2⟩ := h c c0 c1
  refine ⟨k1.imp id (fun z => ⟨z.1, by omega⟩), (sm_CA_s (by omega)).mpr ⟨fun z => ?_, by rw [e]; exact sm_CA_F k2 f1 f2 f3 hm (Int.le_refl _)⟩⟩
  obtain ⟨j0, j1, j2, j3⟩ := k z
  refine ⟨fun y => ?_, j3⟩
  rcases k1 with k1 | k1
  · exact k1 (sm_UR_tr y (sm_UR_in j0 j1 j2))
  · rw [k1.1] at y
    have := sm_UR_le y
    omega
theorem sm_SF_a {q v a c0 x : Int} (h : sm_SF Ac Wr Wa Wx R V a q v) (hR : R c0 = q) (hV : v < V c0) (k : sm_CA Wr Wa Wx R V a q 0) : sm_SF (fun i' : Int => if i' = c0 then x else Ac i') Wr Wa Wx R V a q v := fun c h0 h1 => by
  by_cases z : c = c0
  · rw [z, hR]; exact ⟨Or.inr ⟨rfl, hV⟩, k⟩
  · (try dsimp only at h1)
    rw [if_neg z] at h1
    exact h c h0 h1
/-- a case of this very place is not at work -/
theorem sm_SF_x {q v a c : Int} (h : sm_SF Ac Wr Wa Wx R V a q v) (h0 : 0 ≤ c) (hR : R c = q) (hV : V c ≤ v) : ¬ Ac c = 1 := fun z => by
  rcases (h c h0 z).1 with k | k
  · rw [hR] at k; exact k sm_UR_rf
  · omega
end CA
/-- the words of the cases at work are as they were -/
def sm_WA (wo wo' Ac : Int → Int) : Prop := ∀ c : Int, 0 ≤ c → Ac c = 1 → wo' (5 * c + 2) = wo (5 * c + 2)
theorem sm_WA_rf {wo Ac : Int → Int} : sm_WA wo wo Ac := fun _ _ _ => rfl
theorem sm_WA_tr {a b c Ac Ac' : Int → Int} (h : sm_WA a b Ac) (h2 : sm_WA b c Ac') (k : ∀ x : Int, 0 ≤ x → Ac x = 1 → Ac' x = 1) : sm_WA a c Ac := fun x h0 h1 => (h2 x h0 (k x h0 h1)).trans (h x h0 h1)
theorem sm_WA_up {wo wo' Ac : Int → Int} {c x i : Int} (h : sm_WA wo wo' Ac) (hi : i = 5 * c + 2) (hc : ¬ Ac c = 1) : sm_WA wo (fun i' : Int => if i' = i then x else wo' i') Ac := fun e h0 h1 => by
  (try dsimp only)
  by_cases z : e = c
  · rw [z] at h1; exact absurd h1 hc
  · rw [if_neg (by omega)]; exact h e h0 h1
/-- of all words those of cases alone may change, the third -/
def sm_WK (wo wo' C : Int → Int) : Prop := ∀ n k : Int, 0 ≤ k → k < 5 → (¬ C n = 6 ∨ ¬ k = 2) → wo' (5 * n + k) = wo (5 * n + k)
theorem sm_WK_rf {wo C : Int → Int} : sm_WK wo wo C := fun _ _ _ _ _ => rfl
theorem sm_WK_tr {a b c C : Int → Int} (h : sm_WK a b C) (h2 : sm_WK b c C) : sm_WK a c C := fun n k h0 h1 h3 => (h2 n k h0 h1 h3).trans (h n k h0 h1 h3)
theorem sm_WK_at {a b C : Int → Int} (h : sm_WK a b C) (n k : Int) (h0 : 0 ≤ k) (h1 : k < 5) (h2 : ¬ C n = 6 ∨ ¬ k = 2) : b (5 * n + k) = a (5 * n + k) := h n k h0 h1 h2
theorem sm_WK_0 {a b C : Int → Int} (h : sm_WK a b C) (n : Int) : b (5 * n) = a (5 * n) := by have := h n 0 (by omega) (by omega) (Or.inr (by omega)); rw [Int.add_zero] at this; exact this
theorem sm_WK_up {wo wo' C : Int → Int} {c x i : Int} (h : sm_WK wo wo' C) (hi : i = 5 * c + 2) (hc : C c = 6) : sm_WK wo (fun i' : Int => if i' = i then x else wo' i') C := fun n k h0 h1 h2 => by
  (try dsimp only)
  by_cases z : 5 * n + k = i
  · have e : n = c := by omega
    have e2 : k = 2 := by omega
    rw [e] at h2
    omega
  · rw [if_neg z]; exact h n k h0 h1 h2
set_option maxHeartbeats 4000000 in
/-- a case's third word is written: the tree is in order still -/
theorem sm_WF_w6 {so wo ne C M V Lp Ws : Int → Int} {N ns mn : Int} {nf : Int → Prop} (h : sm_WF so wo ne C M V Lp Ws N ns mn nf) (c i x : Int) (hc : C c = 6) (hi : i = 5 * c + 2) : sm_WF so (fun i' : Int => if i' = i then x else wo i') ne C M V Lp Ws N ns mn nf := by
  refine ⟨fun n h0 h1 => ?_, h.2.1, h.2.2⟩
  have w := h.1 n h0 h1
  have e0 : (fun i' : Int => if i' = i then x else wo i') (5 * n) = wo (5 * n) := if_neg (by omega)
  have e1 : (fun i' : Int => if i' = i then x else wo i') (5 * n + 1) = wo (5 * n + 1) := if_neg (by omega)
  have e2 : ¬ n = c → (fun i' : Int => if i' = i then x else wo i') (5 * n + 2) = wo (5 * n + 2) := fun z => if_neg (by omega)
  have e3 : (fun i' : Int => if i' = i then x else wo i') (5 * n + 3) = wo (5 * n + 3) := if_neg (by omega)
  have e4 : (fun i' : Int => if i' = i then x else wo i') (5 * n + 4) = wo (5 * n + 4) := if_neg (by omega)
  generalize (fun i' : Int => if i' = i then x else wo i') = wo' at e0 e1 e2 e3 e4 ⊢
  unfold sm_wn sm_w1 sm_c1 sm_w2 sm_w3 sm_xn at w ⊢
  by_cases z : n = c
  · subst z
    rw [e0, e1]
    obtain ⟨b0, b1, b2, b3, b4⟩ := w
    exact ⟨b0, b1, fun q => absurd (hc.symm.trans q) (by decide), fun q => absurd (hc.symm.trans q) (by decide), b4⟩
  · rw [e0, e1, e2 z, e3, e4]
    exact w
/-! potentials -/
def sm_ph (v : Int) : Int := if v ≤ 16 then 2 * v else if v = 17 then 36 else if v = 18 then 44 else if v = 19 then 60 else 92
theorem sm_ph_r {v : Int} (h0 : 0 ≤ v) (h1 : v ≤ 20) : 0 ≤ sm_ph v ∧ sm_ph v ≤ 92 := by unfold sm_ph; (repeat' split) <;> omega
theorem sm_ph_s {v : Int} (h0 : 1 ≤ v) (h1 : v ≤ 20) : sm_ph (v - 1) + 2 ≤ sm_ph v ∧ 2 * sm_ph (v - 1) - sm_ph v ≤ 28 := by unfold sm_ph; (repeat' split) <;> omega
theorem sm_ph_m {v w : Int} (h0 : 0 ≤ v) (h : v ≤ w) (h1 : w ≤ 20) : sm_ph v ≤ sm_ph w := by unfold sm_ph; (repeat' split) <;> omega
theorem sm_ph_K {v E : Int} (h0 : 0 ≤ v) (h1 : v ≤ 20) (h : v ≤ E + 20) : 17 * v + 20 ≤ sm_ph v + E + 284 := by unfold sm_ph; (repeat' split) <;> omega
theorem sm_ph_l {v w : Int} (h0 : 0 ≤ v) (h : v ≤ w - 1) (h1 : w ≤ 20) : sm_ph v + 2 ≤ sm_ph w := by
  have a := sm_ph_m h0 h (by omega)
  have b := sm_ph_s (v := w) (by omega) h1
  omega
/-! the list that lies uppermost at a height -/
def sm_lw (Ht Ls : Int → Int) (L h : Int) : Int := if q : 0 ≤ L ∧ Ls L < L then (if Ht L ≤ h then L else sm_lw Ht Ls (Ls L) h) else L
termination_by (L + 1).toNat
decreasing_by omega
theorem sm_lw_n {Ht Ls : Int → Int} {L h : Int} (c : L < 0) : sm_lw Ht Ls L h = L := by rw [sm_lw.eq_def, dif_neg (by omega)]
theorem sm_lw_y {Ht Ls : Int → Int} {L h : Int} (c : 0 ≤ L → Ht L ≤ h) : sm_lw Ht Ls L h = L := by
  by_cases q : 0 ≤ L ∧ Ls L < L
  · rw [sm_lw.eq_def, dif_pos q, if_pos (c q.1)]
  · rw [sm_lw.eq_def, dif_neg q]
theorem sm_lw_s {Ht Ls : Int → Int} {L h : Int} (q : 0 ≤ L ∧ Ls L < L) (c : h < Ht L) : sm_lw Ht Ls L h = sm_lw Ht Ls (Ls L) h := by rw [sm_lw.eq_def, dif_pos q, if_neg (by omega)]
theorem sm_lw_L {Ht Ls : Int → Int} {h h' : Int} (hh : h' ≤ h) : ∀ (j : Nat) (L : Int), (L + 1).toNat = j → sm_lw Ht Ls (sm_lw Ht Ls L h) h' = sm_lw Ht Ls L h' := by
  intro j
  induction j using Nat.strongRecOn with
  | ind j ih =>
    intro L hL
    by_cases q : 0 ≤ L ∧ Ls L < L
    · by_cases c : Ht L ≤ h
      · rw [sm_lw_y (h := h) (fun _ => c)]
      · rw [sm_lw_s q (by omega), sm_lw_s (h := h') q (by omega)]
        exact ih _ (by omega) (Ls L) rfl
    · have e : sm_lw Ht Ls L h = L := by rw [sm_lw.eq_def, dif_neg q]
      rw [e]
theorem sm_lw_lw {Ht Ls : Int → Int} {L h h' : Int} (hh : h' ≤ h) : sm_lw Ht Ls (sm_lw Ht Ls L h) h' = sm_lw Ht Ls L h' := sm_lw_L hh _ L rfl
theorem sm_lw_r {Ht Ls : Int → Int} {h n : Int} (hn : ∀ k : Int, 0 ≤ k → k < n → -1 ≤ Ls k ∧ Ls k < k) : ∀ (j : Nat) (L : Int), (L + 1).toNat = j → -1 ≤ L → L < n → -1 ≤ sm_lw Ht Ls L h ∧ sm_lw Ht Ls L h ≤ L ∧ (0 ≤ sm_lw Ht Ls L h → Ht (sm_lw Ht Ls L h) ≤ h) := by
  intro j
  induction j using Nat.strongRecOn with
  | ind j ih =>
    intro L hL h0 h1
    by_cases q : 0 ≤ L
    · have w := hn L q h1
      by_cases c : Ht L ≤ h
      · rw [sm_lw_y (fun _ => c)]
        exact ⟨h0, Int.le_refl _, fun _ => c⟩
      · rw [sm_lw_s ⟨q, w.2⟩ (by omega)]
        have := ih _ (by omega) (Ls L) rfl w.1 (by omega)
        exact ⟨this.1, by omega, this.2.2⟩
    · rw [sm_lw_n (by omega)]
      exact ⟨h0, Int.le_refl _, fun z => by omega⟩
/-! what is wrapped around: each one by what is around it -/
section WD
variable {Wr Wi Wo Wj Wa Wx Yh Yt Yd Yl Ye Yu Yp Ys Ht Tr Td Ls Mh Mt Ml Mf C V R Lp Ws : Int → Int} {n N mk f Nn : Int}
def sm_wl (Wr Wi Wo Wj Wa Wx Yh Yt Yd Yl Ye Yu Yp Ys Ht Tr Td Ls Mh Mt Ml Mf C V R Lp Ws : Int → Int) (N mk f Nn w : Int) : Prop :=
  (0 ≤ Wr (w) ∧ Wr (w) ≤ 5 ∧ -1 ≤ Wa w ∧ Wa w < w) ∧
  (Wr (w) = 3 ∨ Wr (w) = 5 → Yh (w) = Yh (Wa w) ∧ Yt (w) = Yt (Wa w) ∧ Yd (w) = Yd (Wa w) ∧ Yl (w) = Yl (Wa w)) ∧
  (Wr (w) = 4 → Yh (w) = Yh (Wa w) + 1 ∧ Yt (w) = Yt (Wa w) ∧ Yd (w) = Yd (Wa w) ∧ 0 ≤ Yl (w) ∧ Yl (w) < N ∧ Ht (Yl (w)) = Yh (w) ∧ Ls (Yl (w)) = Yl (Wa w)) ∧
  (Wr (w) = 2 → Yh (w) = Yh (Wa w) + 1 ∧ Yt (w) = Yt (Wa w) ∧ Yd (w) = Yd (Wa w) ∧ -1 ≤ Yl (w) ∧ Yl (w) < N ∧ ((0 ≤ Yl (w) ∧ Ht (Yl (w)) = Yh (w) ∧ Ls (Yl (w)) = Yl (Wa w)) ∨ ((0 ≤ Yl (w) → Ht (Yl (w)) ≤ Yh (Wa w)) ∧ Yl (w) = Yl (Wa w)))) ∧
  (Wr (w) ≤ 1 → Yh (w) = Yh (Wa w) ∧ Yl (w) = Yl (Wa w) ∧ Yd (w) = Yd (Wa w) + 1 ∧ 0 ≤ Yt (w) ∧ Yt (w) < N ∧ Tr (Yt (w)) = Yt (Wa w) ∧ Td (Yt (w)) = Yd (Wa w)) ∧
  (Wr (w) = 0 → Ye (w) = Ye (Wa w) - 1) ∧
  (Wr (w) = 1 → Ye (w) = Ye (Wa w) + sm_ph (Yu (w)) - sm_ph (Yu (w) - 1) - 2) ∧
  (2 ≤ Wr (w) → Ye (w) = Ye (Wa w)) ∧
  (3 ≤ Wr (w) → 0 ≤ Wo (w) ∧ Wo (w) < mk ∧ Mh (Wo (w)) = Yh (Wa w) ∧ Mt (Wo (w)) = Yt (Wa w) ∧ Ml (Wo (w)) = Yl (Wa w) ∧ Mf (Wo (w)) = f) ∧
  (Wr (w) = 3 ∨ Wr (w) = 4 → 0 ≤ Wj (w) ∧ Wj (w) < mk ∧ Mh (Wj (w)) = Yh (w) ∧ Mt (Wj (w)) = Yt (w) ∧ Ml (Wj (w)) = Yl (w) ∧ Mf (Wj (w)) = f) ∧
  (Wr (w) = 1 → 0 ≤ Wx (w) ∧ Wx (w) < Nn ∧ V (Wx (w)) = Yu (w) ∧ 1 ≤ Yu (w) ∧ Yu (w) ≤ 20 ∧ Yd (Wa w) + 2 * Yu (w) ≤ 40 ∧ Yu (w) ≤ Ye (Wa w) + 20 ∧ Ye (Wa w) + sm_ph (Yu (w)) ≤ 92 ∧ R (Wx (w)) < Wx (w) ∧ (Wi (w) = -1 ∨ (0 ≤ Wi (w) ∧ Wi (w) < Nn ∧ C (Wi (w)) = 2 ∧ V (Wi (w)) ≤ Yu (w) - 1 ∧ R (Wi (w)) = Wx (w) ∧ Lp (Wi (w)) ≤ Yp (Wa w) ∧ Ws (Wi (w)) ≤ Ys (Wa w))))
def sm_WD (Wr Wi Wo Wj Wa Wx Yh Yt Yd Yl Ye Yu Yp Ys Ht Tr Td Ls Mh Mt Ml Mf C V R Lp Ws : Int → Int) (n N mk f Nn : Int) : Prop := ∀ w : Int, 0 ≤ w → w < n → sm_wl Wr Wi Wo Wj Wa Wx Yh Yt Yd Yl Ye Yu Yp Ys Ht Tr Td Ls Mh Mt Ml Mf C V R Lp Ws N mk f Nn w ∧ (Wr w = 1 → sm_CA Wr Wa Wx R V (Wa w) (R (Wx w)) (V (Wx w)))
theorem sm_WD_0 (h : n ≤ 0) : sm_WD Wr Wi Wo Wj Wa Wx Yh Yt Yd Yl Ye Yu Yp Ys Ht Tr Td Ls Mh Mt Ml Mf C V R Lp Ws n N mk f Nn := fun w h0 h1 => by omega
theorem sm_WD_at (h : sm_WD Wr Wi Wo Wj Wa Wx Yh Yt Yd Yl Ye Yu Yp Ys Ht Tr Td Ls Mh Mt Ml Mf C V R Lp Ws n N mk f Nn) (w : Int) (h0 : 0 ≤ w) (h1 : w < n) : ((0 ≤ Wr (w) ∧ Wr (w) ≤ 5 ∧ -1 ≤ Wa w ∧ Wa w < w) ∧
  (Wr (w) = 3 ∨ Wr (w) = 5 → Yh (w) = Yh (Wa w) ∧ Yt (w) = Yt (Wa w) ∧ Yd (w) = Yd (Wa w) ∧ Yl (w) = Yl (Wa w)) ∧
  (Wr (w) = 4 → Yh (w) = Yh (Wa w) + 1 ∧ Yt (w) = Yt (Wa w) ∧ Yd (w) = Yd (Wa w) ∧ 0 ≤ Yl (w) ∧ Yl (w) < N ∧ Ht (Yl (w)) = Yh (w) ∧ Ls (Yl (w)) = Yl (Wa w)) ∧
  (Wr (w) = 2 → Yh (w) = Yh (Wa w) + 1 ∧ Yt (w) = Yt (Wa w) ∧ Yd (w) = Yd (Wa w) ∧ -1 ≤ Yl (w) ∧ Yl (w) < N ∧ ((0 ≤ Yl (w) ∧ Ht (Yl (w)) = Yh (w) ∧ Ls (Yl (w)) = Yl (Wa w)) ∨ ((0 ≤ Yl (w) → Ht (Yl (w)) ≤ Yh (Wa w)) ∧ Yl (w) = Yl (Wa w)))) ∧
  (Wr (w) ≤ 1 → Yh (w) = Yh (Wa w) ∧ Yl (w) = Yl (Wa w) ∧ Yd (w) = Yd (Wa w) + 1 ∧ 0 ≤ Yt (w) ∧ Yt (w) < N ∧ Tr (Yt (w)) = Yt (Wa w) ∧ Td (Yt (w)) = Yd (Wa w)) ∧
  (Wr (w) = 0 → Ye (w) = Ye (Wa w) - 1) ∧
  (Wr (w) = 1 → Ye (w) = Ye (Wa w) + sm_ph (Yu (w)) - sm_ph (Yu (w) - 1) - 2) ∧
  (2 ≤ Wr (w) → Ye (w) = Ye (Wa w)) ∧
  (3 ≤ Wr (w) → 0 ≤ Wo (w) ∧ Wo (w) < mk ∧ Mh (Wo (w)) = Yh (Wa w) ∧ Mt (Wo (w)) = Yt (Wa w) ∧ Ml (Wo (w)) = Yl (Wa w) ∧ Mf (Wo (w)) = f) ∧
  (Wr (w) = 3 ∨ Wr (w) = 4 → 0 ≤ Wj (w) ∧ Wj (w) < mk ∧ Mh (Wj (w)) = Yh (w) ∧ Mt (Wj (w)) = Yt (w) ∧ Ml (Wj (w)) = Yl (w) ∧ Mf (Wj (w)) = f) ∧
  (Wr (w) = 1 → 0 ≤ Wx (w) ∧ Wx (w) < Nn ∧ V (Wx (w)) = Yu (w) ∧ 1 ≤ Yu (w) ∧ Yu (w) ≤ 20 ∧ Yd (Wa w) + 2 * Yu (w) ≤ 40 ∧ Yu (w) ≤ Ye (Wa w) + 20 ∧ Ye (Wa w) + sm_ph (Yu (w)) ≤ 92 ∧ R (Wx (w)) < Wx (w) ∧ (Wi (w) = -1 ∨ (0 ≤ Wi (w) ∧ Wi (w) < Nn ∧ C (Wi (w)) = 2 ∧ V (Wi (w)) ≤ Yu (w) - 1 ∧ R (Wi (w)) = Wx (w) ∧ Lp (Wi (w)) ≤ Yp (Wa w) ∧ Ws (Wi (w)) ≤ Ys (Wa w))))) ∧ (Wr w = 1 → sm_CA Wr Wa Wx R V (Wa w) (R (Wx w)) (V (Wx w))) := h w h0 h1
theorem sm_WD_F {Wr' Wi' Wo' Wj' Wa' Wx' Yh' Yt' Yd' Yl' Ye' Yu' Yp' Ys' Ht' Tr' Td' Ls' Mh' Mt' Ml' Mf' : Int → Int} {n' N' mk' f' : Int} (h : sm_WD Wr Wi Wo Wj Wa Wx Yh Yt Yd Yl Ye Yu Yp Ys Ht Tr Td Ls Mh Mt Ml Mf C V R Lp Ws n N mk f Nn) (fWr : sm_F1 Wr Wr' n') (fWi : sm_F1 Wi Wi' n') (fWo : sm_F1 Wo Wo' n') (fWj : sm_F1 Wj Wj' n') (fWa : sm_F1 Wa Wa' n') (fWx : sm_F1 Wx Wx' n') (fYh : sm_F1 Yh Yh' n') (fYt : sm_F1 Yt Yt' n') (fYd : sm_F1 Yd Yd' n') (fYl : sm_F1 Yl Yl' n') (fYe : sm_F1 Ye Ye' n') (fYu : sm_F1 Yu Yu' n') (fYp : sm_F1 Yp Yp' n') (fYs : sm_F1 Ys Ys' n') (hn : n' ≤ n) (g1 : sm_F1 Ht Ht' N) (g2 : sm_F1 Tr Tr' N) (g3 : sm_F1 Td Td' N) (g4 : sm_F1 Ls Ls' N) (m1 : sm_F1 Mh Mh' mk) (m2 : sm_F1 Mt Mt' mk) (m3 : sm_F1 Ml Ml' mk) (m4 : sm_F1 Mf Mf' mk) (hN : N ≤ N') (hm : mk ≤ mk') (hf : f' = f) : sm_WD Wr' Wi' Wo' Wj' Wa' Wx' Yh' Yt' Yd' Yl' Ye' Yu' Yp' Ys' Ht' Tr' Td' Ls' Mh' Mt' Ml' Mf' C V R Lp Ws n' N' mk' f' Nn := fun w h0 h1 => by
  subst hf
  obtain ⟨k, kc⟩ := h w h0 (by omega)
  obtain ⟨k0, k1, k2, k3, k4, k5, k6, k7, k8, k9, k10⟩ := k
  have ha : Wa w < n' := by omega
  have eWr := fWr w h1
  have eWi := fWi w h1
  have eWo := fWo w h1
  have eWj := fWj w h1
  have eWa := fWa w h1
  have eWx := fWx w h1
  have eYh := fYh w h1
  have eYt := fYt w h1
  have eYd := fYd w h1
  have eYl := fYl w h1
  have eYe := fYe w h1
  have eYu := fYu w h1
  have eYp := fYp w h1
  have eYs := fYs w h1
  have aYh := fYh (Wa w) ha
  have aYt := fYt (Wa w) ha
  have aYd := fYd (Wa w) ha
  have aYl := fYl (Wa w) ha
  have aYe := fYe (Wa w) ha
  have aYp := fYp (Wa w) ha
  have aYs := fYs (Wa w) ha
  refine ⟨?_, fun z => ?_⟩
  · unfold sm_wl
    rw [eWa]
    rw [eWr, eWi, eWo, eWj, eWx, eYh, eYt, eYd, eYl, eYe, eYu]
    rw [aYh, aYt, aYd, aYl, aYe, aYp, aYs]
    refine ⟨k0, k1, fun z => ?_, fun z => ?_, fun z => ?_, k5, k6, k7, fun z => ?_, fun z => ?_, k10⟩
    · have q := k2 z
      rw [g1 _ (by omega), g4 _ (by omega)]
      exact ⟨q.1, q.2.1, q.2.2.1, q.2.2.2.1, by omega, q.2.2.2.2.2⟩
    · have q := k3 z
      refine ⟨q.1, q.2.1, q.2.2.1, q.2.2.2.1, by omega, q.2.2.2.2.2.imp (fun y => ?_) (fun y => ⟨fun x => ?_, y.2⟩)⟩
      · rw [g1 _ (by omega), g4 _ (by omega)]; exact y
      · rw [g1 _ (by omega)]; exact y.1 x
    · have q := k4 z
      rw [g2 _ (by omega), g3 _ (by omega)]
      exact ⟨q.1, q.2.1, q.2.2.1, q.2.2.2.1, by omega, q.2.2.2.2.2⟩
    · have q := k8 z
      rw [m1 _ (by omega), m2 _ (by omega), m3 _ (by omega), m4 _ (by omega)]
      exact ⟨q.1, by omega, q.2.2⟩
    · have q := k9 z
      rw [m1 _ (by omega), m2 _ (by omega), m3 _ (by omega), m4 _ (by omega)]
      exact ⟨q.1, by omega, q.2.2⟩
  · rw [eWr] at z
    rw [eWa, eWx]
    exact sm_CA_F (kc z) fWr fWa fWx ha (Int.le_refl _)
theorem sm_WD_p {wx0 yh0 yt0 yd0 yl0 ye0 yu0 yp0 ys0 n' : Int} (h : sm_WD Wr Wi Wo Wj Wa Wx Yh Yt Yd Yl Ye Yu Yp Ys Ht Tr Td Ls Mh Mt Ml Mf C V R Lp Ws n N mk f Nn) (h0 : 0 ≤ n) (hn : n' = n + 1) (k : (0 ≤ Wr (n) ∧ Wr (n) ≤ 5 ∧ -1 ≤ Wa n ∧ Wa n < n) ∧
  (Wr (n) = 3 ∨ Wr (n) = 5 → yh0 = Yh (Wa n) ∧ yt0 = Yt (Wa n) ∧ yd0 = Yd (Wa n) ∧ yl0 = Yl (Wa n)) ∧
  (Wr (n) = 4 → yh0 = Yh (Wa n) + 1 ∧ yt0 = Yt (Wa n) ∧ yd0 = Yd (Wa n) ∧ 0 ≤ yl0 ∧ yl0 < N ∧ Ht (yl0) = yh0 ∧ Ls (yl0) = Yl (Wa n)) ∧
  (Wr (n) = 2 → yh0 = Yh (Wa n) + 1 ∧ yt0 = Yt (Wa n) ∧ yd0 = Yd (Wa n) ∧ -1 ≤ yl0 ∧ yl0 < N ∧ ((0 ≤ yl0 ∧ Ht (yl0) = yh0 ∧ Ls (yl0) = Yl (Wa n)) ∨ ((0 ≤ yl0 → Ht (yl0) ≤ Yh (Wa n)) ∧ yl0 = Yl (Wa n)))) ∧
  (Wr (n) ≤ 1 → yh0 = Yh (Wa n) ∧ yl0 = Yl (Wa n) ∧ yd0 = Yd (Wa n) + 1 ∧ 0 ≤ yt0 ∧ yt0 < N ∧ Tr (yt0) = Yt (Wa n) ∧ Td (yt0) = Yd (Wa n)) ∧
  (Wr (n) = 0 → ye0 = Ye (Wa n) - 1) ∧
  (Wr (n) = 1 → ye0 = Ye (Wa n) + sm_ph (yu0) - sm_ph (yu0 - 1) - 2) ∧
  (2 ≤ Wr (n) → ye0 = Ye (Wa n)) ∧
  (3 ≤ Wr (n) → 0 ≤ Wo (n) ∧ Wo (n) < mk ∧ Mh (Wo (n)) = Yh (Wa n) ∧ Mt (Wo (n)) = Yt (Wa n) ∧ Ml (Wo (n)) = Yl (Wa n) ∧ Mf (Wo (n)) = f) ∧
  (Wr (n) = 3 ∨ Wr (n) = 4 → 0 ≤ Wj (n) ∧ Wj (n) < mk ∧ Mh (Wj (n)) = yh0 ∧ Mt (Wj (n)) = yt0 ∧ Ml (Wj (n)) = yl0 ∧ Mf (Wj (n)) = f) ∧
  (Wr (n) = 1 → 0 ≤ wx0 ∧ wx0 < Nn ∧ V (wx0) = yu0 ∧ 1 ≤ yu0 ∧ yu0 ≤ 20 ∧ Yd (Wa n) + 2 * yu0 ≤ 40 ∧ yu0 ≤ Ye (Wa n) + 20 ∧ Ye (Wa n) + sm_ph (yu0) ≤ 92 ∧ R (wx0) < wx0 ∧ (Wi (n) = -1 ∨ (0 ≤ Wi (n) ∧ Wi (n) < Nn ∧ C (Wi (n)) = 2 ∧ V (Wi (n)) ≤ yu0 - 1 ∧ R (Wi (n)) = wx0 ∧ Lp (Wi (n)) ≤ Yp (Wa n) ∧ Ws (Wi (n)) ≤ Ys (Wa n))))) (kc : Wr n = 1 → sm_CA Wr Wa Wx R V (Wa n) (R wx0) (V wx0)) : sm_WD Wr Wi Wo Wj Wa (fun i' : Int => if i' = n then wx0 else Wx i') (fun i' : Int => if i' = n then yh0 else Yh i') (fun i' : Int => if i' = n then yt0 else Yt i') (fun i' : Int => if i' = n then yd0 else Yd i') (fun i' : Int => if i' = n then yl0 else Yl i') (fun i' : Int => if i' = n then ye0 else Ye i') (fun i' : Int => if i' = n then yu0 else Yu i') (fun i' : Int => if i' = n then yp0 else Yp i') (fun i' : Int => if i' = n then ys0 else Ys i') Ht Tr Td Ls Mh Mt Ml Mf C V R Lp Ws n' N mk f Nn := fun w w0 w1 => by
  have F : ∀ (r : Int → Int) (x : Int), sm_F1 r (fun i' : Int => if i' = n then x else r i') n := fun r x j hj => if_neg (by omega)
  by_cases z : w < n
  · exact sm_WD_F h sm_F1_rf sm_F1_rf sm_F1_rf sm_F1_rf sm_F1_rf (F Wx wx0) (F Yh yh0) (F Yt yt0) (F Yd yd0) (F Yl yl0) (F Ye ye0) (F Yu yu0) (F Yp yp0) (F Ys ys0) (Int.le_refl _) sm_F1_rf sm_F1_rf sm_F1_rf sm_F1_rf sm_F1_rf sm_F1_rf sm_F1_rf sm_F1_rf (Int.le_refl _) (Int.le_refl _) rfl w w0 z
  · have e : w = n := by omega
    subst e
    have k00 := k.1
    have hne : ¬ Wa w = w := by omega
    refine ⟨?_, fun y => ?_⟩
    · unfold sm_wl
      (try dsimp only)
      rw [if_pos rfl, if_pos rfl, if_pos rfl, if_pos rfl, if_pos rfl, if_pos rfl, if_pos rfl]
      rw [if_neg hne, if_neg hne, if_neg hne, if_neg hne, if_neg hne, if_neg hne, if_neg hne]
      exact k
    · (try dsimp only)
      rw [if_pos rfl]
      exact sm_CA_F (kc y) sm_F1_rf sm_F1_rf (F Wx wx0) (by omega) (Int.le_refl _)
end WD
theorem sm_CA_u {Wr Wa Wx R V : Int → Int} {a q v v' n x : Int} (h : sm_CA Wr Wa Wx R V a q v) (hm : a < n) (h0 : 0 ≤ n) (e : Wa n = a) (hv : v' ≤ v) (k : Wr n = 1 → R x = q ∧ q < x ∧ v' < V x) : sm_CA Wr Wa (fun i' : Int => if i' = n then x else Wx i') R V n q v' :=
  sm_CA_p h sm_F1_rf sm_F1_rf (sm_F1_up sm_F1_rf (Int.le_refl _)) hm rfl h0 e hv (fun z => by (try dsimp only); rw [if_pos rfl]; exact k z)
theorem sm_SF_u {Ac Wr Wa Wx R V : Int → Int} {a q v v' n x : Int} (h : sm_SF Ac Wr Wa Wx R V a q v) (hm : a < n) (h0 : 0 ≤ n) (e : Wa n = a) (hv : v' ≤ v) (k : Wr n = 1 → 0 ≤ x ∧ R x = q ∧ q < x ∧ 0 < V x) : sm_SF Ac Wr Wa (fun i' : Int => if i' = n then x else Wx i') R V n q v' :=
  sm_SF_p h sm_F1_rf sm_F1_rf (sm_F1_up sm_F1_rf (Int.le_refl _)) hm rfl h0 e hv (fun z => by (try dsimp only); rw [if_pos rfl]; exact k z)
theorem sm_CA_e {Wr Wa Wx R V : Int → Int} {a q v a' q' v' : Int} (h : sm_CA Wr Wa Wx R V a q v) (e : a' = a) (e2 : q' = q) (hv : v' ≤ v) : sm_CA Wr Wa Wx R V a' q' v' := by subst e e2; exact sm_CA_v h hv
theorem sm_SF_e {Ac Wr Wa Wx R V : Int → Int} {a q v a' q' v' : Int} (h : sm_SF Ac Wr Wa Wx R V a q v) (e : a' = a) (e2 : q' = q) (hv : v' ≤ v) : sm_SF Ac Wr Wa Wx R V a' q' v' := by subst e e2; exact sm_SF_v h hv
/-- rows that are the same everywhere -/
def sm_EQ (a b : Int → Int) : Prop := ∀ k : Int, b k = a k
theorem sm_EQ_rf {a : Int → Int} : sm_EQ a a := fun _ => rfl
theorem sm_EQ_tr {a b c : Int → Int} (h : sm_EQ a b) (h2 : sm_EQ b c) : sm_EQ a c := fun k => (h2 k).trans (h k)
theorem sm_EQ_1 {a b : Int → Int} (h : sm_EQ a b) (x : Int) (_ : 0 ≤ x) (h1 : a x = 1) : b x = 1 := (h x).trans h1
theorem sm_EQ_2 {a b : Int → Int} (h : sm_EQ a b) (x : Int) (_ : 0 ≤ x) (h1 : b x = 1) : a x = 1 := (h x).symm.trans h1
/-- what is around, in short: whether a loop, a loop or switch is -/
def sm_WS (Wr Wa Yp Ys : Int → Int) (n : Int) : Prop := (Yp (-1) = 0 ∧ Ys (-1) = 0) ∧ ∀ w : Int, 0 ≤ w → w < n → (0 ≤ Wr w ∧ Wr w ≤ 5 ∧ -1 ≤ Wa w ∧ Wa w < w) ∧ (Yp w = 1 → Wr w = 3 ∨ Wr w = 4 ∨ Yp (Wa w) = 1) ∧ (Ys w = 1 → Wr w = 3 ∨ Wr w = 4 ∨ Wr w = 5 ∨ Ys (Wa w) = 1)
theorem sm_WS_at {Wr Wa Yp Ys : Int → Int} {n : Int} (h : sm_WS Wr Wa Yp Ys n) (w : Int) (h0 : 0 ≤ w) (h1 : w < n) : (0 ≤ Wr w ∧ Wr w ≤ 5 ∧ -1 ≤ Wa w ∧ Wa w < w) ∧ (Yp w = 1 → Wr w = 3 ∨ Wr w = 4 ∨ Yp (Wa w) = 1) ∧ (Ys w = 1 → Wr w = 3 ∨ Wr w = 4 ∨ Wr w = 5 ∨ Ys (Wa w) = 1) := h.2 w h0 h1
theorem sm_WS_1 {Wr Wa Yp Ys : Int → Int} {n : Int} (h : sm_WS Wr Wa Yp Ys n) : Yp (-1) = 0 ∧ Ys (-1) = 0 := h.1
theorem sm_WS_F {Wr Wa Yp Ys Wr' Wa' Yp' Ys' : Int → Int} {n n' : Int} (h : sm_WS Wr Wa Yp Ys n) (f1 : sm_F1 Wr Wr' n') (f2 : sm_F1 Wa Wa' n') (f3 : sm_F1 Yp Yp' n') (f4 : sm_F1 Ys Ys' n') (h0 : 0 ≤ n') (hn : n' ≤ n) : sm_WS Wr' Wa' Yp' Ys' n' := by
  refine ⟨by rw [f3 _ (by omega), f4 _ (by omega)]; exact h.1, fun w w0 w1 => ?_⟩
  have k := h.2 w w0 (by omega)
  rw [f1 w w1, f2 w w1, f3 w w1, f4 w w1, f3 (Wa w) (by omega), f4 (Wa w) (by omega)]
  exact k
theorem sm_WS_p {Wr Wa Yp Ys : Int → Int} {n n' p s : Int} (h : sm_WS Wr Wa Yp Ys n) (h0 : 0 ≤ n) (hn : n' = n + 1) (k : (0 ≤ Wr n ∧ Wr n ≤ 5 ∧ -1 ≤ Wa n ∧ Wa n < n) ∧ (p = 1 → Wr n = 3 ∨ Wr n = 4 ∨ Yp (Wa n) = 1) ∧ (s = 1 → Wr n = 3 ∨ Wr n = 4 ∨ Wr n = 5 ∨ Ys (Wa n) = 1)) : sm_WS Wr Wa (fun i' : Int => if i' = n then p else Yp i') (fun i' : Int => if i' = n then s else Ys i') n' := by
  have F : ∀ (r : Int → Int) (x : Int), sm_F1 r (fun i' : Int => if i' = n then x else r i') n := fun r x j hj => if_neg (by omega)
  have g := sm_WS_F h (n' := n) sm_F1_rf sm_F1_rf (F Yp p) (F Ys s) h0 (Int.le_refl _)
  refine ⟨g.1, fun w w0 w1 => ?_⟩
  by_cases z : w < n
  · exact g.2 w w0 z
  · have e : w = n := by omega
    subst e
    (try dsimp only)
    rw [if_pos rfl, if_pos rfl, if_neg (by omega), if_neg (by omega)]
    exact k
/-! the statements that wait: how much is still to be coded -/
def sm_wn0 (V : Int → Int) (x : Int) : Nat := (12001 - x).toNat * 12003 ^ (V x + 1).toNat
def sm_wt (V : Int → Int) (x : Int) : Int := if x < 0 then 0 else (sm_wn0 V x : Int)
theorem sm_wt_0 {V : Int → Int} {x : Int} : 0 ≤ sm_wt V x := by unfold sm_wt; split <;> omega
theorem sm_wt_m {V : Int → Int} {x : Int} (h : x < 0) : sm_wt V x = 0 := if_pos h
theorem sm_wt_n0 {V : Int → Int} {x y : Int} (h1 : x < 12001) (h : x < y) (hy : y < 12001) (hv : V y ≤ V x) : sm_wn0 V y + 12003 ^ (V x + 1).toNat ≤ sm_wn0 V x := by
  unfold sm_wn0
  have a : 12003 ^ (V y + 1).toNat ≤ 12003 ^ (V x + 1).toNat := Nat.pow_le_pow_right (by decide) (by omega)
  have b : (12001 - y).toNat + 1 ≤ (12001 - x).toNat := by omega
  have c := Nat.mul_le_mul_left (12001 - y).toNat a
  have d := Nat.mul_le_mul_right (12003 ^ (V x + 1).toNat) b
  rw [Nat.add_mul, Nat.one_mul] at d
  omega
theorem sm_wt_p {V : Int → Int} {x : Int} : 0 < 12003 ^ (V x + 1).toNat := Nat.pow_pos (by decide)
/-- on to the next one -/
theorem sm_wt_n {V : Int → Int} {x y : Int} (h0 : 0 ≤ x) (h1 : x < 12001) (h : y = -1 ∨ (x < y ∧ y < 12001 ∧ V y ≤ V x)) : sm_wt V y < sm_wt V x := by
  have p := sm_wt_p (V := V) (x := x)
  have e : sm_wt V x = (sm_wn0 V x : Int) := if_neg (by omega)
  rcases h with h | h
  · rw [h, sm_wt_m (by omega), e]
    have : 0 < sm_wn0 V x := by
      unfold sm_wn0
      exact Nat.mul_pos (by omega) p
    omega
  · have e2 : sm_wt V y = (sm_wn0 V y : Int) := if_neg (by omega)
    have := sm_wt_n0 h1 h.1 h.2.1 h.2.2
    omega
/-- into a block, its next one waits -/
theorem sm_wt_b {V : Int → Int} {x c y : Int} (h0 : 0 ≤ x) (h1 : x < 12001) (h : y = -1 ∨ (x < y ∧ y < 12001 ∧ V y ≤ V x)) (hc : c = -1 ∨ (0 ≤ c ∧ V c ≤ V x - 1 ∧ 0 ≤ V c)) (hv : 0 ≤ V x) : sm_wt V c + sm_wt V y + 1 < sm_wt V x := by
  have e : sm_wt V x = (sm_wn0 V x : Int) := if_neg (by omega)
  have hP : 12003 ^ (V x + 1).toNat = 12003 ^ (V x).toNat * 12003 := by rw [show (V x + 1).toNat = (V x).toNat + 1 by omega, Nat.pow_succ]
  have hp1 : 1 ≤ 12003 ^ (V x).toNat := Nat.pow_pos (by decide)
  have k : sm_wt V c ≤ ((12001 * 12003 ^ (V x).toNat : Nat) : Int) := by
    rcases hc with hc | hc
    · rw [hc, sm_wt_m (by omega)]; omega
    · have e2 : sm_wt V c = (sm_wn0 V c : Int) := if_neg (by omega)
      rw [e2]
      unfold sm_wn0
      have a : 12003 ^ (V c + 1).toNat ≤ 12003 ^ (V x).toNat := Nat.pow_le_pow_right (by decide) (by omega)
      have b : (12001 - c).toNat ≤ 12001 := by omega
      have d := Nat.mul_le_mul b a
      omega
  rcases h with h | h
  · have hy : sm_wt V y = 0 := by rw [h]; exact sm_wt_m (by decide)
    have g : 12003 ^ (V x + 1).toNat ≤ sm_wn0 V x := by
      unfold sm_wn0
      have := Nat.mul_le_mul_right (12003 ^ (V x + 1).toNat) (show 1 ≤ (12001 - x).toNat by omega)
      rw [Nat.one_mul] at this
      exact this
    omega
  · have e2 : sm_wt V y = (sm_wn0 V y : Int) := if_neg (by omega)
    have := sm_wt_n0 h1 h.1 h.2.1 h.2.2
    omega
def sm_wp (V r : Int → Int) (lo hi : Int) : Int := sm_su (fun k => sm_wt V (r (lo + k)) + 1) (hi - lo)
theorem sm_wp_0 {V r : Int → Int} {lo hi : Int} (h : hi ≤ lo) : sm_wp V r lo hi = 0 := sm_su_0 (by omega)
theorem sm_wp_s {V r : Int → Int} {lo hi : Int} (h : lo < hi) : sm_wp V r lo hi = sm_wp V r lo (hi - 1) + sm_wt V (r (hi - 1)) + 1 := by
  unfold sm_wp
  rw [sm_su_s (by omega)]
  (try dsimp only)
  rw [show hi - lo - 1 = hi - 1 - lo by omega, show lo + (hi - 1 - lo) = hi - 1 by omega]
  omega
theorem sm_wp_F {V r r' : Int → Int} {lo hi m : Int} (f : sm_F1 r r' m) (h : hi ≤ m) : sm_wp V r' lo hi = sm_wp V r lo hi := by
  unfold sm_wp
  exact sm_su_eq _ _ rfl (fun y h0 h1 => by (try dsimp only); rw [f _ (by omega)])
theorem sm_wp_r {V r : Int → Int} {lo : Int} : ∀ (j : Nat) (hi : Int), (hi - lo).toNat = j → 0 ≤ sm_wp V r lo hi := by
  intro j
  induction j with
  | zero => intro hi h; rw [sm_wp_0 (by omega)]; exact Int.le_refl _
  | succ j ih =>
    intro hi h
    rw [sm_wp_s (by omega)]
    have a := ih (hi - 1) (by omega)
    have b := sm_wt_0 (V := V) (x := r (hi - 1))
    omega
theorem sm_wp_n {V r : Int → Int} {lo hi : Int} : 0 ≤ sm_wp V r lo hi := sm_wp_r _ hi rfl
theorem sm_wp_u {V r : Int → Int} {lo hi x i : Int} (h : lo ≤ hi) (hi2 : i = hi) : sm_wp V (fun i' : Int => if i' = i then x else r i') lo (hi + 1) = sm_wp V r lo hi + sm_wt V x + 1 := by
  subst hi2
  have F : sm_F1 r (fun i' : Int => if i' = i then x else r i') i := fun j hj => if_neg (by omega)
  rw [sm_wp_s (by omega), show i + 1 - 1 = i by omega, sm_wp_F F (Int.le_refl _)]
  (try dsimp only)
  rw [if_pos rfl]
/-- what waits is in order -/
def sm_WQ (w C V Lp Ws R : Int → Int) (N lo hi v l s q : Int) : Prop := ∀ j : Int, lo ≤ j → j < hi → w j = -1 ∨ (0 ≤ w j ∧ w j < N ∧ C (w j) = 2 ∧ V (w j) + (j - lo) ≤ v ∧ Lp (w j) ≤ l ∧ Ws (w j) ≤ s ∧ R (w j) = q)
theorem sm_WQ_0 {w C V Lp Ws R : Int → Int} {N lo hi v l s q : Int} (h : hi ≤ lo) : sm_WQ w C V Lp Ws R N lo hi v l s q := fun j h0 h1 => by omega
theorem sm_WQ_at {w C V Lp Ws R : Int → Int} {N lo hi v l s q : Int} (h : sm_WQ w C V Lp Ws R N lo hi v l s q) (j : Int) (h0 : lo ≤ j) (h1 : j < hi) : w j = -1 ∨ (0 ≤ w j ∧ w j < N ∧ C (w j) = 2 ∧ V (w j) + (j - lo) ≤ v ∧ Lp (w j) ≤ l ∧ Ws (w j) ≤ s ∧ R (w j) = q) := h j h0 h1
theorem sm_WQ_F {w w' C V Lp Ws R : Int → Int} {N lo hi hi' v l s q : Int} (h : sm_WQ w C V Lp Ws R N lo hi v l s q) (f : sm_F1 w w' hi') (hh : hi' ≤ hi) : sm_WQ w' C V Lp Ws R N lo hi' v l s q := fun j h0 h1 => by
  rw [f j h1]; exact h j h0 (by omega)
theorem sm_WQ_u {w C V Lp Ws R : Int → Int} {N lo hi i x v l s q : Int} (h : sm_WQ w C V Lp Ws R N lo hi v l s q) (hi2 : i = hi) (k : x = -1 ∨ (0 ≤ x ∧ x < N ∧ C x = 2 ∧ V x + (hi - lo) ≤ v ∧ Lp x ≤ l ∧ Ws x ≤ s ∧ R x = q)) : sm_WQ (fun i' : Int => if i' = i then x else w i') C V Lp Ws R N lo (hi + 1) v l s q := fun j h0 h1 => by
  (try dsimp only)
  by_cases z : j = i
  · rw [if_pos z, z, hi2]; exact k
  · rw [if_neg z]; exact h j h0 (by omega)
/-! what a statement's parts are: class, levels, flags, regions in one -/
section KID
variable {so wo ne C M V Lp Ws R : Int → Int} {N ns mn : Int} {nf : Int → Prop}
theorem sm_kd20 (h : sm_WF so wo ne C M V Lp Ws N ns mn nf) (g : sm_RG so wo ne R N) (e : Int) (h0 : 0 ≤ e) (h1 : e < N) (hc : C e = 2) (hs : so e = 20) : wo (5 * e) = -1 ∨ (0 ≤ wo (5 * e) ∧ wo (5 * e) < N ∧ C (wo (5 * e)) = 2 ∧ M (wo (5 * e)) ≤ M e - 3 ∧ V (wo (5 * e)) ≤ V e - 1 ∧ Lp (wo (5 * e)) ≤ Lp e ∧ Ws (wo (5 * e)) ≤ Ws e ∧ R (wo (5 * e)) = R e) := by
  have a := sm_g2_20 h e h0 h1 hc hs
  have b := (g e h0 h1).2.1 hs
  unfold sm_rgq at b
  rcases a with a | a
  · exact Or.inl a
  · unfold sm_sx sm_ex at a
    have c : R (wo (5 * e)) = R e := by omega
    exact Or.inr ⟨a.1.1, a.1.2.1, a.1.2.2.1, a.1.2.2.2.1, a.1.2.2.2.2, a.2.1, a.2.2, c⟩
theorem sm_kd24 (h : sm_WF so wo ne C M V Lp Ws N ns mn nf) (g : sm_RG so wo ne R N) (e : Int) (h0 : 0 ≤ e) (h1 : e < N) (hc : C e = 2) (hs : so e = 24) : (0 ≤ wo (5 * e + 1) ∧ wo (5 * e + 1) < N ∧ C (wo (5 * e + 1)) = 2 ∧ M (wo (5 * e + 1)) ≤ M e - 2 ∧ V (wo (5 * e + 1)) ≤ V e - 1 ∧ Lp (wo (5 * e + 1)) ≤ Lp e ∧ Ws (wo (5 * e + 1)) ≤ Ws e ∧ R (wo (5 * e + 1)) = R e) := by
  have a := (sm_g2_24 h e h0 h1 hc hs).2.1
  have b := ((g e h0 h1).2.2.1 hs).1
  unfold sm_rgq at b
  unfold sm_sx sm_ex at a
  have c : R (wo (5 * e + 1)) = R e := by omega
  exact ⟨a.1.1, a.1.2.1, a.1.2.2.1, a.1.2.2.2.1, a.1.2.2.2.2, a.2.1, a.2.2, c⟩
theorem sm_kd24b (h : sm_WF so wo ne C M V Lp Ws N ns mn nf) (g : sm_RG so wo ne R N) (e : Int) (h0 : 0 ≤ e) (h1 : e < N) (hc : C e = 2) (hs : so e = 24) : wo (5 * e + 2) = -1 ∨ (0 ≤ wo (5 * e + 2) ∧ wo (5 * e + 2) < N ∧ C (wo (5 * e + 2)) = 2 ∧ M (wo (5 * e + 2)) ≤ M e - 2 ∧ V (wo (5 * e + 2)) ≤ V e - 1 ∧ Lp (wo (5 * e + 2)) ≤ Lp e ∧ Ws (wo (5 * e + 2)) ≤ Ws e ∧ R (wo (5 * e + 2)) = R e) := by
  have a := (sm_g2_24 h e h0 h1 hc hs).2.2
  have b := ((g e h0 h1).2.2.1 hs).2
  unfold sm_rgq at b
  rcases a with a | a
  · exact Or.inl a
  · unfold sm_sx sm_ex at a
    have c : R (wo (5 * e + 2)) = R e := by omega
    exact Or.inr ⟨a.1.1, a.1.2.1, a.1.2.2.1, a.1.2.2.2.1, a.1.2.2.2.2, a.2.1, a.2.2, c⟩
theorem sm_kd25 (h : sm_WF so wo ne C M V Lp Ws N ns mn nf) (g : sm_RG so wo ne R N) (e : Int) (h0 : 0 ≤ e) (h1 : e < N) (hc : C e = 2) (hs : so e = 25) : (0 ≤ wo (5 * e + 1) ∧ wo (5 * e + 1) < N ∧ C (wo (5 * e + 1)) = 2 ∧ M (wo (5 * e + 1)) ≤ M e - 3 ∧ V (wo (5 * e + 1)) ≤ V e - 1 ∧ Lp (wo (5 * e + 1)) ≤ 1 ∧ Ws (wo (5 * e + 1)) ≤ 1 ∧ R (wo (5 * e + 1)) = R e) := by
  have a := (sm_g2_25 h e h0 h1 hc hs).2
  have b := (g e h0 h1).2.2.2.1 (Or.inl hs)
  unfold sm_rgq at b
  unfold sm_sx sm_ex at a
  have c : R (wo (5 * e + 1)) = R e := by omega
  exact ⟨a.1.1, a.1.2.1, a.1.2.2.1, a.1.2.2.2.1, a.1.2.2.2.2, a.2.1, a.2.2, c⟩
theorem sm_kd26 (h : sm_WF so wo ne C M V Lp Ws N ns mn nf) (g : sm_RG so wo ne R N) (e : Int) (h0 : 0 ≤ e) (h1 : e < N) (hc : C e = 2) (hs : so e = 26) : (0 ≤ wo (5 * e + 1) ∧ wo (5 * e + 1) < N ∧ C (wo (5 * e + 1)) = 2 ∧ M (wo (5 * e + 1)) ≤ M e - 3 ∧ V (wo (5 * e + 1)) ≤ V e - 1 ∧ Lp (wo (5 * e + 1)) ≤ 1 ∧ Ws (wo (5 * e + 1)) ≤ 1 ∧ R (wo (5 * e + 1)) = R e) := by
  have a := (sm_g2_26 h e h0 h1 hc hs).2
  have b := (g e h0 h1).2.2.2.1 (Or.inr hs)
  unfold sm_rgq at b
  unfold sm_sx sm_ex at a
  have c : R (wo (5 * e + 1)) = R e := by omega
  exact ⟨a.1.1, a.1.2.1, a.1.2.2.1, a.1.2.2.2.1, a.1.2.2.2.2, a.2.1, a.2.2, c⟩
theorem sm_kd27 (h : sm_WF so wo ne C M V Lp Ws N ns mn nf) (g : sm_RG so wo ne R N) (e : Int) (h0 : 0 ≤ e) (h1 : e < N) (hc : C e = 2) (hs : so e = 27) : wo (5 * e) = -1 ∨ (0 ≤ wo (5 * e) ∧ wo (5 * e) < N ∧ C (wo (5 * e)) = 2 ∧ M (wo (5 * e)) ≤ M e - 2 ∧ V (wo (5 * e)) ≤ V e ∧ Lp (wo (5 * e)) ≤ Lp e ∧ Ws (wo (5 * e)) ≤ Ws e ∧ R (wo (5 * e)) = R e) := by
  have a := (sm_g2_27 h e h0 h1 hc hs).1
  have b := ((g e h0 h1).2.2.2.2.1 hs).1
  unfold sm_rgq at b
  rcases a with a | a
  · exact Or.inl a
  · unfold sm_sx sm_ex at a
    have c : R (wo (5 * e)) = R e := by omega
    exact Or.inr ⟨a.1.1, a.1.2.1, a.1.2.2.1, a.1.2.2.2.1, a.1.2.2.2.2, a.2.1, a.2.2, c⟩
theorem sm_kd27b (h : sm_WF so wo ne C M V Lp Ws N ns mn nf) (g : sm_RG so wo ne R N) (e : Int) (h0 : 0 ≤ e) (h1 : e < N) (hc : C e = 2) (hs : so e = 27) : (0 ≤ wo (5 * e + 3) ∧ wo (5 * e + 3) < N ∧ C (wo (5 * e + 3)) = 2 ∧ M (wo (5 * e + 3)) ≤ M e - 2 ∧ V (wo (5 * e + 3)) ≤ V e - 1 ∧ Lp (wo (5 * e + 3)) ≤ 1 ∧ Ws (wo (5 * e + 3)) ≤ 1 ∧ R (wo (5 * e + 3)) = R e) := by
  have a := (sm_g2_27 h e h0 h1 hc hs).2.2.2.2
  have b := ((g e h0 h1).2.2.2.2.1 hs).2
  unfold sm_rgq at b
  unfold sm_sx sm_ex at a
  have c : R (wo (5 * e + 3)) = R e := by omega
  exact ⟨a.1.1, a.1.2.1, a.1.2.2.1, a.1.2.2.2.1, a.1.2.2.2.2, a.2.1, a.2.2, c⟩
theorem sm_kd28 (h : sm_WF so wo ne C M V Lp Ws N ns mn nf) (g : sm_RG so wo ne R N) (e : Int) (h0 : 0 ≤ e) (h1 : e < N) (hc : C e = 2) (hs : so e = 28) : (0 ≤ wo (5 * e + 2) ∧ wo (5 * e + 2) < N ∧ C (wo (5 * e + 2)) = 2 ∧ M (wo (5 * e + 2)) ≤ M e - 3 ∧ V (wo (5 * e + 2)) ≤ V e - 1 ∧ Lp (wo (5 * e + 2)) ≤ 1 ∧ Ws (wo (5 * e + 2)) ≤ 1 ∧ R (wo (5 * e + 2)) = R e) := by
  have a := (sm_g2_28 h e h0 h1 hc hs).2.2
  have b := (g e h0 h1).2.2.2.2.2.1 hs
  unfold sm_rgq at b
  unfold sm_sx sm_ex at a
  have c : R (wo (5 * e + 2)) = R e := by omega
  exact ⟨a.1.1, a.1.2.1, a.1.2.2.1, a.1.2.2.2.1, a.1.2.2.2.2, a.2.1, a.2.2, c⟩
theorem sm_kd33 (h : sm_WF so wo ne C M V Lp Ws N ns mn nf) (g : sm_RG so wo ne R N) (e : Int) (h0 : 0 ≤ e) (h1 : e < N) (hc : C e = 2) (hs : so e = 33) : wo (5 * e) = -1 ∨ (0 ≤ wo (5 * e) ∧ wo (5 * e) < N ∧ C (wo (5 * e)) = 2 ∧ M (wo (5 * e)) ≤ M e - 5 ∧ V (wo (5 * e)) ≤ V e - 1 ∧ Lp (wo (5 * e)) ≤ Lp e ∧ Ws (wo (5 * e)) ≤ Ws e ∧ R (wo (5 * e)) = R e) := by
  have a := (sm_g2_33 h e h0 h1 hc hs).1
  have b := ((g e h0 h1).2.2.2.2.2.2.1 hs).1
  unfold sm_rgq at b
  rcases a with a | a
  · exact Or.inl a
  · unfold sm_sx sm_ex at a
    have c : R (wo (5 * e)) = R e := by omega
    exact Or.inr ⟨a.1.1, a.1.2.1, a.1.2.2.1, a.1.2.2.2.1, a.1.2.2.2.2, a.2.1, a.2.2, c⟩
theorem sm_kd33b (h : sm_WF so wo ne C M V Lp Ws N ns mn nf) (g : sm_RG so wo ne R N) (e : Int) (h0 : 0 ≤ e) (h1 : e < N) (hc : C e = 2) (hs : so e = 33) : wo (5 * e + 2) = -1 ∨ (0 ≤ wo (5 * e + 2) ∧ wo (5 * e + 2) < N ∧ C (wo (5 * e + 2)) = 2 ∧ M (wo (5 * e + 2)) ≤ M e - 5 ∧ V (wo (5 * e + 2)) ≤ V e - 1 ∧ Lp (wo (5 * e + 2)) ≤ Lp e ∧ Ws (wo (5 * e + 2)) ≤ Ws e ∧ R (wo (5 * e + 2)) = R e) := by
  have a := (sm_g2_33 h e h0 h1 hc hs).2.1
  have b := ((g e h0 h1).2.2.2.2.2.2.1 hs).2.1
  unfold sm_rgq at b
  rcases a with a | a
  · exact Or.inl a
  · unfold sm_sx sm_ex at a
    have c : R (wo (5 * e + 2)) = R e := by omega
    exact Or.inr ⟨a.1.1, a.1.2.1, a.1.2.2.1, a.1.2.2.2.1, a.1.2.2.2.2, a.2.1, a.2.2, c⟩
theorem sm_kd33c (h : sm_WF so wo ne C M V Lp Ws N ns mn nf) (g : sm_RG so wo ne R N) (e : Int) (h0 : 0 ≤ e) (h1 : e < N) (hc : C e = 2) (hs : so e = 33) : wo (5 * e + 3) = -1 ∨ (0 ≤ wo (5 * e + 3) ∧ wo (5 * e + 3) < N ∧ C (wo (5 * e + 3)) = 2 ∧ M (wo (5 * e + 3)) ≤ M e - 5 ∧ V (wo (5 * e + 3)) ≤ V e - 1 ∧ Lp (wo (5 * e + 3)) ≤ Lp e ∧ Ws (wo (5 * e + 3)) ≤ Ws e ∧ R (wo (5 * e + 3)) = e) := by
  have a := (sm_g2_33 h e h0 h1 hc hs).2.2.1
  have b := ((g e h0 h1).2.2.2.2.2.2.1 hs).2.2
  unfold sm_rgq at b
  rcases a with a | a
  · exact Or.inl a
  · unfold sm_sx sm_ex at a
    have c : R (wo (5 * e + 3)) = e := by omega
    exact Or.inr ⟨a.1.1, a.1.2.1, a.1.2.2.1, a.1.2.2.2.1, a.1.2.2.2.2, a.2.1, a.2.2, c⟩
theorem sm_kdn (h : sm_WF so wo ne C M V Lp Ws N ns mn nf) (g : sm_RG so wo ne R N) (e : Int) (h0 : 0 ≤ e) (h1 : e < N) (hc : C e = 2) : ne e = -1 ∨ (e < ne e ∧ 0 ≤ ne e ∧ ne e < N ∧ C (ne e) = 2 ∧ M (ne e) ≤ M e ∧ V (ne e) ≤ V e ∧ Lp (ne e) ≤ Lp e ∧ Ws (ne e) ≤ Ws e ∧ R (ne e) = R e) := by
  have a := sm_gn h e h0 h1 (by omega)
  have b := (g e h0 h1).2.2.2.2.2.2.2.2.1
  unfold sm_rgq at b
  rcases a with a | a
  · exact Or.inl a
  · have c : R (ne e) = R e := by omega
    exact Or.inr ⟨a.1, by omega, a.2.1, a.2.2.1.trans hc, a.2.2.2.1, a.2.2.2.2.1, a.2.2.2.2.2.1, a.2.2.2.2.2.2.1, c⟩
theorem sm_kd34 (h : sm_WF so wo ne C M V Lp Ws N ns mn nf) (g : sm_RG so wo ne R N) (e : Int) (h0 : 0 ≤ e) (h1 : e < N) (hc : C e = 2) (hs : so e = 34) : wo (5 * e + 1) = -1 ∨ (0 ≤ wo (5 * e + 1) ∧ wo (5 * e + 1) < N ∧ C (wo (5 * e + 1)) = 6 ∧ V (wo (5 * e + 1)) ≤ V e ∧ Lp (wo (5 * e + 1)) ≤ Lp e ∧ R (wo (5 * e + 1)) = R e ∧ so (wo (5 * e + 1)) = 35) := by
  have a := (sm_g2_34 h e h0 h1 hc hs).2
  have b := (g e h0 h1).2.2.2.2.2.2.2.1 (Or.inl hs)
  have d := (g e h0 h1).2.2.2.2.2.2.2.2.2.1 hs
  unfold sm_rgq at b
  rcases a with a | a
  · exact Or.inl a
  · unfold sm_sx sm_ex at a
    have c : R (wo (5 * e + 1)) = R e := by omega
    have k : so (wo (5 * e + 1)) = 35 := by omega
    exact Or.inr ⟨a.1.1, a.1.2.1, a.1.2.2.1, a.1.2.2.2.2, a.2.1, c, k⟩
theorem sm_kd35 (h : sm_WF so wo ne C M V Lp Ws N ns mn nf) (g : sm_RG so wo ne R N) (e : Int) (h0 : 0 ≤ e) (h1 : e < N) (hc : C e = 6) (hs : so e = 35) : (wo (5 * e + 1) = -1 ∨ (0 ≤ wo (5 * e + 1) ∧ wo (5 * e + 1) < N ∧ C (wo (5 * e + 1)) = 2 ∧ V (wo (5 * e + 1)) ≤ V e - 1 ∧ Lp (wo (5 * e + 1)) ≤ Lp e ∧ Ws (wo (5 * e + 1)) ≤ 1 ∧ R (wo (5 * e + 1)) = R e)) ∧
    (ne e = -1 ∨ (e < ne e ∧ ne e < N ∧ C (ne e) = 6 ∧ M (ne e) < M e ∧ V (ne e) ≤ V e ∧ Lp (ne e) ≤ Lp e ∧ R (ne e) = R e ∧ so (ne e) = 35)) := by
  have a := (sm_g3_6 h e h0 h1 hc).2.1
  have b := (g e h0 h1).2.2.2.2.2.2.2.1 (Or.inr hs)
  have a2 := sm_gn h e h0 h1 (by omega)
  have b2 := (g e h0 h1).2.2.2.2.2.2.2.2.1
  have d := (g e h0 h1).2.2.2.2.2.2.2.2.2.2 hs
  unfold sm_rgq at b b2
  constructor
  · rcases a with a | a
    · exact Or.inl a
    · unfold sm_sx sm_ex at a
      have c : R (wo (5 * e + 1)) = R e := by omega
      exact Or.inr ⟨a.1.1, a.1.2.1, a.1.2.2.1, a.1.2.2.2.2, a.2.1, a.2.2, c⟩
  · rcases a2 with a2 | a2
    · exact Or.inl a2
    · have c : R (ne e) = R e := by omega
      have k : so (ne e) = 35 := by omega
      exact Or.inr ⟨a2.1, a2.2.1, a2.2.2.1.trans hc, a2.2.2.2.2.2.2.2.1 (Or.inr hc), a2.2.2.2.2.1, a2.2.2.2.2.2.1, c, k⟩
end KID
theorem sm_wp_F2 {V r r' : Int → Int} {lo hi hi' m : Int} (f : sm_F1 r r' m) (h : hi ≤ m) (e : hi' = hi) : sm_wp V r' lo hi' = sm_wp V r lo hi := by rw [e]; exact sm_wp_F f h
theorem sm_h_mp {x : Int} : x ≤ (if x < 0 then 0 else x) ∧ 0 ≤ (if x < 0 then 0 else x) := by split <;> omega
theorem sm_h_mp2 {x y : Int} : x ≤ (if x < 0 then 0 else x) ∧ 0 ≤ (if x < 0 then 0 else x) ∧ (x ≤ y - 3 → 3 ≤ y → (if x < 0 then 0 else x) ≤ y - 3) := by split <;> omega
/-- a mark that nothing jumps to (its function is none) is told anew -/
theorem sm_KC_re {op a b fo Ht Tr Td Ls pa Mh Mt Ml Mf Mp ar vs vm : Int → Int} {n mk f nf ns si m i1 i2 i3 i4 x1 x2 x3 x4 : Int} (h : sm_KC op a b fo Ht Tr Td Ls pa Mh Mt Ml Mf Mp ar vs vm n mk f nf ns si) (hm : Mf m = -1) (hp : ¬ Mp m = 1) (hi : i1 = m ∧ i2 = m ∧ i3 = m ∧ i4 = m) :
    sm_KC op a b fo Ht Tr Td Ls pa (fun i' : Int => if i' = i1 then x1 else Mh i') (fun i' : Int => if i' = i2 then x2 else Mt i') (fun i' : Int => if i' = i3 then x3 else Ml i') (fun i' : Int => if i' = i4 then x4 else Mf i') Mp ar vs vm n mk f nf ns si := by
  obtain ⟨q1, q2, q3, q4⟩ := hi
  subst i1 i2 i3 i4
  refine ⟨h.1, fun k k0 k1 => ?_, h.2.2.1, fun q q0 q1 q2 => ?_⟩
  · obtain ⟨⟨r1, r2, r3, r4, r5⟩, qq⟩ := h.2.1 k k0 k1
    have ne : sm_ju (op k) → ¬ a k = m := fun z e => by
      have w := (r3 z).2.2
      rw [e, hm] at w
      have := r1.2.2.1
      omega
    refine ⟨⟨r1, ?_, fun z => ?_, r4, r5⟩, qq⟩
    · by_cases z : sm_ju (op k)
      · (try dsimp only)
        rw [if_neg (ne z), if_neg (ne z), if_neg (ne z)]
        exact r2
      · exact sm_ci_j r2 z
    · (try dsimp only)
      rw [if_neg (ne z)]
      exact r3 z
  · have e : ¬ q = m := fun e => hp (by rw [← e]; exact q2)
    have w := h.2.2.2 q q0 q1 q2
    unfold sm_mp at w ⊢
    (try dsimp only)
    rw [if_neg e, if_neg e, if_neg e, if_neg e]
    exact w
theorem sm_h_set1 {op a b fo Ht Tr Td Ls pa Mh Mt Ml Mf Mp ar vs vm : Int → Int} {n mk f nf ns si k : Int} (h : sm_KC op a b fo Ht Tr Td Ls pa Mh Mt Ml Mf Mp ar vs vm n mk f nf ns si) (hk : 0 ≤ k ∧ k < n) : Ht k ≤ Ht k + 1 ∧ Ht k + 1 ≤ n + 2 := by
  have := (h.2.1 k hk.1 hk.2).2.1
  omega

