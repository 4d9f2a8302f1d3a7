
/-! CODE IN ORDER. op operation, a, b words, fo whose; Ht height, Tr innermost open TRY (-1), Td how many are open, Ls innermost NAMES_OF whose LIST lies (-1) -/
def sm_dp (Td : Int → Int) (t : Int) : Int := if t < 0 then 0 else Td t + 1
def sm_tc (Tr Td : Int → Int) (t j : Int) : Int := if h : 0 ≤ Tr t ∧ Tr t < t then (if j = Td t then t else sm_tc Tr Td (Tr t) j) else t
termination_by t.toNat
decreasing_by omega
def sm_at (fo Ht Tr Ls : Int → Int) (n k m f h t l : Int) : Prop := 0 ≤ m ∧ m < n ∧ fo m = f ∧ Ht m = h ∧ Tr m = t ∧ Ls m = l
def sm_lo (Ht Tr Ls : Int → Int) (k m : Int) : Prop := 0 ≤ m ∧ (0 ≤ Tr k → Ht (Tr k) ≤ m) ∧ (0 ≤ Ls k → Ht (Ls k) ≤ m)
def sm_C1 (op a b fo Ht Tr Td Ls ar : Int → Int) (n nf ns si k : Int) : Prop :=
  (0 ≤ op k ∧ op k ≤ 30 ∧ 0 ≤ fo k ∧ fo k < nf ∧ 0 ≤ Ht k ∧ Ht k ≤ 396 ∧ Ht k ≤ k + 2 ∧ -1 ≤ Tr k ∧ Tr k < k ∧ 0 ≤ Td k ∧ Td k ≤ 40 ∧ -1 ≤ Ls k ∧ Ls k < k) ∧
  (0 ≤ Tr k → op (Tr k) = 27 ∧ fo (Tr k) = fo k ∧ Td k = Td (Tr k) + 1) ∧ (Tr k = -1 → Td k = 0) ∧
  (0 ≤ Ls k → op (Ls k) = 29 ∧ fo (Ls k) = fo k ∧ Ht (Ls k) ≤ Ht k ∧ 1 ≤ Ht (Ls k)) ∧
  (op k = 0 → (0 ≤ a k ∧ a k ≤ 6 ∧ (a k = 6 → 0 ≤ b k ∧ b k < ns)) ∧ sm_lo Ht Tr Ls k (Ht k) ∧ sm_at fo Ht Tr Ls n k (k + 1) (fo k) (Ht k + 1) (Tr k) (Ls k)) ∧
  ((op k = 1 ∨ op k = 3 ∨ op k = 5) → (0 ≤ a k ∧ 0 ≤ b k ∧ b k < ns) ∧ sm_lo Ht Tr Ls k (Ht k) ∧ sm_at fo Ht Tr Ls n k (k + 1) (fo k) (Ht k + 1) (Tr k) (Ls k)) ∧
  ((op k = 2 ∨ op k = 4) → (0 ≤ a k ∧ 0 ≤ b k ∧ b k < ns) ∧ sm_lo Ht Tr Ls k (Ht k - 1) ∧ sm_at fo Ht Tr Ls n k (k + 1) (fo k) (Ht k) (Tr k) (Ls k)) ∧
  (op k = 6 → sm_lo Ht Tr Ls k (Ht k) ∧ sm_at fo Ht Tr Ls n k (k + 1) (fo k) (Ht k + 1) (Tr k) (Ls k)) ∧
  ((op k = 7 ∨ op k = 8) → (0 ≤ a k ∧ a k < si) ∧ sm_lo Ht Tr Ls k (Ht k) ∧ sm_at fo Ht Tr Ls n k (k + 1) (fo k) (Ht k + 1) (Tr k) (Ls k)) ∧
  (op k = 9 → (1 ≤ a k ∧ a k < nf ∧ ar (a k) = fo k) ∧ sm_lo Ht Tr Ls k (Ht k) ∧ sm_at fo Ht Tr Ls n k (k + 1) (fo k) (Ht k + 1) (Tr k) (Ls k)) ∧
  ((op k = 10 ∨ op k = 12) → sm_lo Ht Tr Ls k (Ht k - 2) ∧ sm_at fo Ht Tr Ls n k (k + 1) (fo k) (Ht k - 1) (Tr k) (Ls k)) ∧
  (op k = 11 → sm_lo Ht Tr Ls k (Ht k - 3) ∧ sm_at fo Ht Tr Ls n k (k + 1) (fo k) (Ht k - 2) (Tr k) (Ls k)) ∧
  (op k = 13 → (0 ≤ a k ∧ a k ≤ 4) ∧ sm_lo Ht Tr Ls k (Ht k - 1) ∧ sm_at fo Ht Tr Ls n k (k + 1) (fo k) (Ht k) (Tr k) (Ls k)) ∧
  (op k = 14 → (0 ≤ a k ∧ a k ≤ 20) ∧ sm_lo Ht Tr Ls k (Ht k - 2) ∧ sm_at fo Ht Tr Ls n k (k + 1) (fo k) (Ht k - 1) (Tr k) (Ls k)) ∧
  (op k = 15 → (0 ≤ a k ∧ a k ≤ 8) ∧ sm_lo Ht Tr Ls k (Ht k - a k - 2) ∧ sm_at fo Ht Tr Ls n k (k + 1) (fo k) (Ht k - a k - 1) (Tr k) (Ls k)) ∧
  (op k = 16 → (0 ≤ a k ∧ a k ≤ 8 ∧ 0 ≤ b k ∧ b k < si) ∧ sm_lo Ht Tr Ls k (Ht k - a k - 1) ∧ sm_at fo Ht Tr Ls n k (k + 1) (fo k) (Ht k - a k) (Tr k) (Ls k)) ∧
  (op k = 17 → 1 ≤ Ht k ∧ (0 ≤ Tr k → Ht (Tr k) ≤ Ht k - 1) ∧ ((0 ≤ Ls k ∧ Ht (Ls k) = Ht k ∧ sm_at fo Ht Tr Ls n k (k + 1) (fo k) (Ht k - 1) (Tr k) (Ls (Ls k))) ∨ ((0 ≤ Ls k → Ht (Ls k) ≤ Ht k - 1) ∧ sm_at fo Ht Tr Ls n k (k + 1) (fo k) (Ht k - 1) (Tr k) (Ls k)))) ∧
  (op k = 18 → sm_lo Ht Tr Ls k (Ht k - 1) ∧ sm_at fo Ht Tr Ls n k (k + 1) (fo k) (Ht k + 1) (Tr k) (Ls k)) ∧
  (op k = 19 → sm_lo Ht Tr Ls k (Ht k - 2) ∧ sm_at fo Ht Tr Ls n k (k + 1) (fo k) (Ht k + 2) (Tr k) (Ls k)) ∧
  (op k = 20 → sm_lo Ht Tr Ls k (Ht k - 3) ∧ sm_at fo Ht Tr Ls n k (k + 1) (fo k) (Ht k + 1) (Tr k) (Ls k)) ∧
  (op k = 21 → sm_lo Ht Tr Ls k (Ht k) ∧ sm_at fo Ht Tr Ls n k (a k) (fo k) (Ht k) (Tr k) (Ls k)) ∧
  (op k = 22 → sm_lo Ht Tr Ls k (Ht k - 1) ∧ sm_at fo Ht Tr Ls n k (k + 1) (fo k) (Ht k - 1) (Tr k) (Ls k) ∧ sm_at fo Ht Tr Ls n k (a k) (fo k) (Ht k - 1) (Tr k) (Ls k)) ∧
  ((op k = 23 ∨ op k = 24) → sm_lo Ht Tr Ls k (Ht k - 1) ∧ sm_at fo Ht Tr Ls n k (k + 1) (fo k) (Ht k - 1) (Tr k) (Ls k) ∧ sm_at fo Ht Tr Ls n k (a k) (fo k) (Ht k) (Tr k) (Ls k)) ∧
  ((op k = 25 ∨ op k = 26) → sm_lo Ht Tr Ls k (Ht k - 1)) ∧
  (op k = 27 → Td k < 40 ∧ sm_lo Ht Tr Ls k (Ht k) ∧ sm_at fo Ht Tr Ls n k (k + 1) (fo k) (Ht k) k (Ls k) ∧ sm_at fo Ht Tr Ls n k (a k) (fo k) (Ht k + 1) (Tr k) (Ls k)) ∧
  (op k = 28 → 0 ≤ Tr k ∧ sm_lo Ht Tr Ls k (Ht k) ∧ sm_at fo Ht Tr Ls n k (k + 1) (fo k) (Ht k) (Tr (Tr k)) (Ls k)) ∧
  (op k = 29 → sm_lo Ht Tr Ls k (Ht k - 1) ∧ sm_at fo Ht Tr Ls n k (k + 1) (fo k) (Ht k) (Tr k) k) ∧
  (op k = 30 → 0 ≤ Ls k ∧ Ht (Ls k) = Ht k ∧ 1 ≤ Ht k ∧ (0 ≤ Tr k → Ht (Tr k) ≤ Ht k - 1) ∧ sm_at fo Ht Tr Ls n k (k + 1) (fo k) (Ht k + 1) (Tr k) (Ls k) ∧ sm_at fo Ht Tr Ls n k (a k) (fo k) (Ht k - 1) (Tr k) (Ls (Ls k)))
def sm_CT (op a b fo Ht Tr Td Ls ar : Int → Int) (n nf ns si : Int) : Prop := ∀ k : Int, 0 ≤ k → k < n → sm_C1 op a b fo Ht Tr Td Ls ar n nf ns si k
theorem sm_tc_top {Tr Td : Int → Int} {t : Int} (h : -1 ≤ Tr t ∧ Tr t < t) (h0 : 0 ≤ t) : sm_tc Tr Td t (Td t) = t := by
  rw [sm_tc.eq_def]
  split
  · rw [if_pos rfl]
  · rfl
theorem sm_tc_in {Tr Td : Int → Int} {t j : Int} (h : 0 ≤ Tr t ∧ Tr t < t) (hj : ¬ j = Td t) : sm_tc Tr Td t j = sm_tc Tr Td (Tr t) j := by
  rw [sm_tc.eq_def, dif_pos h, if_neg hj]
/-- the open tries' places and heights, from a base on -/
def sm_TC (tp th a Ht Tr Td : Int → Int) (base t : Int) : Prop := ∀ j : Int, 0 ≤ j → j < sm_dp Td t → tp (base + j) = a (sm_tc Tr Td t j) ∧ th (base + j) = Ht (sm_tc Tr Td t j)
def sm_ST (R H SA TR TP TH a Ht Tr Td : Int → Int) (n P stk : Int) : Prop := ∀ st : Int, 0 ≤ st → st < P → R st = 1 → H st = Ht st ∧ 465000 ≤ SA st ∧ SA st + H st ≤ stk ∧ 0 ≤ TR st ∧ TR st ≤ 40 ∧ (st < n → TR st = sm_dp Td (Tr st) ∧ sm_TC TP TH a Ht Tr Td (40 * st) (Tr st))
theorem sm_TC_0 {tp th a Ht Tr Td : Int → Int} {base t : Int} (h : t < 0) : sm_TC tp th a Ht Tr Td base t := fun j h0 h1 => by
  unfold sm_dp at h1
  rw [if_pos h] at h1
  omega
theorem sm_TC_push {tp th a Ht Tr Td : Int → Int} {base k x y i i2 : Int} (h : sm_TC tp th a Ht Tr Td base (Tr k)) (h0 : 0 ≤ k) (hk : -1 ≤ Tr k ∧ Tr k < k) (hd : Td k = sm_dp Td (Tr k)) (hx : x = a k) (hy : y = Ht k) (hi : i = base + Td k) (hi2 : i2 = base + Td k) : sm_TC (fun i' : Int => if i' = i then x else tp i') (fun i' : Int => if i' = i2 then y else th i') a Ht Tr Td base k := fun j j0 j1 => by
  have hdk : sm_dp Td k = Td k + 1 := if_neg (by omega)
  rw [hdk] at j1
  (try dsimp only)
  by_cases hj : j = Td k
  · subst hj
    rw [if_pos (by omega), if_pos (by omega), sm_tc_top hk h0]
    exact ⟨hx, hy⟩
  · rw [if_neg (by omega), if_neg (by omega)]
    have ht : 0 ≤ Tr k := by
      by_cases q : Tr k < 0
      · unfold sm_dp at hd; rw [if_pos q] at hd; omega
      · omega
    rw [sm_tc_in ⟨ht, hk.2⟩ hj]
    exact h j j0 (by omega)
theorem sm_TC_pop {tp th a Ht Tr Td : Int → Int} {base k : Int} (h : sm_TC tp th a Ht Tr Td base k) (h0 : 0 ≤ k) (hk : -1 ≤ Tr k ∧ Tr k < k) (hd : Td k = sm_dp Td (Tr k)) : sm_TC tp th a Ht Tr Td base (Tr k) := fun j j0 j1 => by
  have hdk : sm_dp Td k = Td k + 1 := if_neg (by omega)
  have ht : 0 ≤ Tr k := by
    by_cases q : Tr k < 0
    · unfold sm_dp at j1; rw [if_pos q] at j1; omega
    · omega
  have := h j j0 (by omega)
  rw [sm_tc_in ⟨ht, hk.2⟩ (by omega)] at this
  exact this
theorem sm_TC_top {tp th a Ht Tr Td : Int → Int} {base k : Int} (h : sm_TC tp th a Ht Tr Td base k) (h0 : 0 ≤ k) (hk : -1 ≤ Tr k ∧ Tr k < k) (hd : 0 ≤ Td k) : tp (base + Td k) = a k ∧ th (base + Td k) = Ht k := by
  have hdk : sm_dp Td k = Td k + 1 := if_neg (by omega)
  have := h (Td k) hd (by omega)
  rw [sm_tc_top hk h0] at this
  exact this
theorem sm_TC_t {tp th a Ht Tr Td : Int → Int} {base t t' : Int} (h : sm_TC tp th a Ht Tr Td base t) (e : t = t') : sm_TC tp th a Ht Tr Td base t' := e ▸ h
/-- rows that are copied from b to c, forty at most; nothing else -/
def sm_CQ (tp th tp0 th0 : Int → Int) (c b k : Int) : Prop := (∀ j : Int, 0 ≤ j → j < k → tp (c + j) = tp0 (b + j) ∧ th (c + j) = th0 (b + j)) ∧ ∀ i : Int, (i < c ∨ c + 40 ≤ i) → tp i = tp0 i ∧ th i = th0 i
theorem sm_CQ_0 {tp th : Int → Int} {c b k : Int} (h : k = 0) : sm_CQ tp th tp th c b k := ⟨fun j h0 h1 => by omega, fun _ _ => ⟨rfl, rfl⟩⟩
theorem sm_CQ_up {tp th tp0 th0 : Int → Int} {c b k k' i i2 x y : Int} (h : sm_CQ tp th tp0 th0 c b k) (h0 : 0 ≤ k) (h1 : k < 40) (hd : b + 40 ≤ c ∨ c + 40 ≤ b) (hi : i = c + k) (hi2 : i2 = c + k) (hx : x = tp (b + k)) (hy : y = th (b + k)) (hk : k' = k + 1) : sm_CQ (fun i' : Int => if i' = i then x else tp i') (fun i' : Int => if i' = i2 then y else th i') tp0 th0 c b k' := by
  refine ⟨fun j j0 j1 => ?_, fun q hq => ?_⟩
  · (try dsimp only)
    by_cases hj : j = k
    · subst hj
      rw [if_pos (by omega), if_pos (by omega), hx, hy]
      exact h.2 (b + j) (by omega)
    · rw [if_neg (by omega), if_neg (by omega)]
      exact h.1 j j0 (by omega)
  · (try dsimp only)
    rw [if_neg (by omega), if_neg (by omega)]
    exact h.2 q hq
theorem sm_CQ_TC {tp th tp0 th0 a Ht Tr Td : Int → Int} {c b k t : Int} (h : sm_CQ tp th tp0 th0 c b k) (q : sm_TC tp0 th0 a Ht Tr Td b t) (hk : sm_dp Td t ≤ k) : sm_TC tp th a Ht Tr Td c t := fun j j0 j1 => by
  obtain ⟨e1, e2⟩ := h.1 j j0 (by omega)
  obtain ⟨f1, f2⟩ := q j j0 j1
  exact ⟨e1.trans f1, e2.trans f2⟩
theorem sm_CQ_k {tp th tp0 th0 a Ht Tr Td : Int → Int} {c b k d t : Int} (h : sm_CQ tp th tp0 th0 c b k) (q : sm_TC tp0 th0 a Ht Tr Td d t) (hd : d + 40 ≤ c ∨ c + 40 ≤ d) (ht : sm_dp Td t ≤ 40) : sm_TC tp th a Ht Tr Td d t := fun j j0 j1 => by
  obtain ⟨e1, e2⟩ := h.2 (d + j) (by omega)
  obtain ⟨f1, f2⟩ := q j j0 j1
  exact ⟨e1.trans f1, e2.trans f2⟩
theorem sm_ST_new {R H SA TR TP TH TP' TH' a Ht Tr Td : Int → Int} {n P stk st x hh d t stk' : Int} (h : sm_ST R H SA TR TP TH a Ht Tr Td n P stk) (q : sm_CQ TP' TH' TP TH (40 * st) 25560 d) (w : sm_TC TP TH a Ht Tr Td 25560 t) (h0 : 0 ≤ st) (h1 : st < 639) (hP : P ≤ 639) (hx : x = 1) (hh1 : hh = Ht st) (hh0 : 0 ≤ Ht st) (hd : d = sm_dp Td t) (hd2 : 0 ≤ d ∧ d ≤ 40) (ht : st < n → Tr st = t) (hs : 465000 ≤ stk) (hk : stk' = stk + hh) :
    sm_ST (fun i' : Int => if i' = st then x else R i') (fun i' : Int => if i' = st then hh else H i') (fun i' : Int => if i' = st then stk else SA i') (fun i' : Int => if i' = st then d else TR i') TP' TH' a Ht Tr Td n P stk' := fun s s0 s1 hr => by
  (try dsimp only at hr ⊢)
  by_cases hq : s = st
  · subst hq
    rw [if_pos rfl, if_pos rfl, if_pos rfl]
    refine ⟨hh1, hs, by omega, hd2.1, hd2.2, fun hn => ?_⟩
    rw [ht hn]
    exact ⟨hd, sm_CQ_TC q w (by omega)⟩
  · rw [if_neg hq] at hr
    rw [if_neg hq, if_neg hq, if_neg hq]
    obtain ⟨a1, a2, a3, a4, a5, a6⟩ := h s s0 s1 hr
    refine ⟨a1, a2, by omega, a4, a5, fun hn => ?_⟩
    obtain ⟨b1, b2⟩ := a6 hn
    exact ⟨b1, sm_CQ_k q b2 (by omega) (by omega)⟩
theorem sm_ST_at {R H SA TR TP TH a Ht Tr Td : Int → Int} {n P stk : Int} (h : sm_ST R H SA TR TP TH a Ht Tr Td n P stk) (st : Int) (h0 : 0 ≤ st) (h1 : st < P) (h2 : R st = 1) : H st = Ht st ∧ 465000 ≤ SA st ∧ SA st + H st ≤ stk ∧ 0 ≤ TR st ∧ TR st ≤ 40 ∧ (st < n → TR st = sm_dp Td (Tr st) ∧ sm_TC TP TH a Ht Tr Td (40 * st) (Tr st)) := h st h0 h1 h2
theorem sm_ST_F {R H SA TR TP TH H' SA' TR' TP' TH' a Ht Tr Td : Int → Int} {n P stk : Int} (h : sm_ST R H SA TR TP TH a Ht Tr Td n P stk) (hP : P ≤ 639) (e1 : sm_F1 H H' 639) (e2 : sm_F1 SA SA' 639) (e3 : sm_F1 TR TR' 639) (e4 : sm_F1 TP TP' 25560) (e5 : sm_F1 TH TH' 25560) : sm_ST R H' SA' TR' TP' TH' a Ht Tr Td n P stk := fun s s0 s1 hr => by
  obtain ⟨a1, a2, a3, a4, a5, a6⟩ := h s s0 s1 hr
  rw [e1 s (by omega), e2 s (by omega), e3 s (by omega)]
  refine ⟨a1, a2, a3, a4, a5, fun hn => ?_⟩
  obtain ⟨b1, b2⟩ := a6 hn
  refine ⟨b1, fun j j0 j1 => ?_⟩
  rw [e4 (40 * s + j) (by omega), e5 (40 * s + j) (by omega)]
  exact b2 j j0 j1
theorem sm_CQ_F {tp th tp0 th0 : Int → Int} {c b k : Int} (h : sm_CQ tp th tp0 th0 c b k) : sm_F1 tp0 tp c ∧ sm_F1 th0 th c := ⟨fun i hi => (h.2 i (Or.inl hi)).1, fun i hi => (h.2 i (Or.inl hi)).2⟩
theorem sm_cn_b {R : Int → Int} (h : ∀ x, 0 ≤ R x ∧ R x ≤ 1) : 0 ≤ sm_cn R ∧ sm_cn R ≤ 640 := sm_cn_rg h
theorem sm_cn_r {R : Int → Int} {i x : Int} (h0 : 0 ≤ i) (h1 : i < 640) : sm_cn (fun i' : Int => if i' = i then x else R i') = sm_cn R + R i - x := by
  have := sm_su_up (f := fun y => 1 - R y) (g := fun y => 1 - (if y = i then x else R y)) h0 (fun y hy => by (try dsimp only); rw [if_neg hy]) _ 640 rfl h1
  (try dsimp only at this)
  rw [if_pos rfl] at this
  unfold sm_cn
  (try dsimp only)
  omega
theorem sm_du_b {D : Int → Int} (h : ∀ x, 0 ≤ D x ∧ D x ≤ 1) : 0 ≤ sm_du D ∧ sm_du D ≤ 640 := sm_du_rg h
theorem sm_du_r {D : Int → Int} {i x : Int} (h0 : 0 ≤ i) (h1 : i < 640) : sm_du (fun i' : Int => if i' = i then x else D i') = sm_du D - D i + x := by
  have := sm_su_up (f := D) (g := fun y => if y = i then x else D y) h0 (fun y hy => by (try dsimp only); rw [if_neg hy]) _ 640 rfl h1
  (try dsimp only at this)
  rw [if_pos rfl] at this
  exact this
def sm_rq (a b : Int) : Int := sm_pc a + sm_pc b
theorem sm_ps_A {A B : Int → Int} {i x : Int} (h : 639 ≤ i) : sm_ps (fun i' : Int => if i' = i then x else A i') B = sm_ps A B := sm_su_eq _ _ rfl (fun y h0 h1 => by (try dsimp only); rw [if_neg (by omega)])
theorem sm_ps_B {A B : Int → Int} {i x : Int} (h : 639 ≤ i) : sm_ps A (fun i' : Int => if i' = i then x else B i') = sm_ps A B := sm_su_eq _ _ rfl (fun y h0 h1 => by (try dsimp only); rw [if_neg (by omega)])
theorem sm_ps_a {A B : Int → Int} {i x : Int} (h0 : 0 ≤ i) (h1 : i < 639) : sm_ps (fun i' : Int => if i' = i then x else A i') B = sm_ps A B + sm_rq (A i) (B i) - sm_rq x (B i) := by
  have := sm_su_up (f := fun y => 128 - sm_pc (A y) - sm_pc (B y)) (g := fun y => 128 - sm_pc (if y = i then x else A y) - sm_pc (B y)) h0 (fun y hy => by (try dsimp only); rw [if_neg hy]) _ 639 rfl h1
  (try dsimp only at this)
  rw [if_pos rfl] at this
  unfold sm_ps sm_rq
  (try dsimp only)
  omega
theorem sm_ps_b {A B : Int → Int} {i x : Int} (h0 : 0 ≤ i) (h1 : i < 639) : sm_ps A (fun i' : Int => if i' = i then x else B i') = sm_ps A B + sm_rq (A i) (B i) - sm_rq (A i) x := by
  have := sm_su_up (f := fun y => 128 - sm_pc (A y) - sm_pc (B y)) (g := fun y => 128 - sm_pc (A y) - sm_pc (if y = i then x else B y)) h0 (fun y hy => by (try dsimp only); rw [if_neg hy]) _ 639 rfl h1
  (try dsimp only at this)
  rw [if_pos rfl] at this
  unfold sm_ps sm_rq
  (try dsimp only)
  omega
theorem sm_hs_up {R H : Int → Int} {i x : Int} (h0 : 0 ≤ i) (h1 : i < 640) (hr : R i = 0) (hx : x = 1) : sm_hs (fun i' : Int => if i' = i then x else R i') H = sm_hs R H - H i := by
  have := sm_su_up (f := fun y => if R y = 0 then H y else 0) (g := fun y => if (if y = i then x else R y) = 0 then H y else 0) h0 (fun y hy => by (try dsimp only); rw [if_neg hy]) _ 640 rfl h1
  (try dsimp only at this)
  rw [if_pos rfl, if_pos hr, hx, if_neg (by decide)] at this
  unfold sm_hs
  (try dsimp only)
  rw [hx]
  omega
theorem sm_rq_or {a b fa fb x y r : Int} (ra : sv_RL a) (rb : sv_RL b) (ea : sm_lor a fa = x) (eb : sm_lor b fb = y) (hr : r = 0 ∨ r = 1) (hq : r = 1 → ¬ x = a ∨ ¬ y = b) : sm_rq a b + r ≤ sm_rq x y := by
  have p := sm_lor_1 (x := 0) ra ea
  have q := sm_lor_1 (x := 0) rb eb
  unfold sm_rq
  rcases hr with hr | hr
  · omega
  · rcases hq hr with w | w
    · have := p.2 w; omega
    · have := q.2 w; omega
theorem sm_ct_0 {op a b fo Ht Tr Td Ls ar : Int → Int} {n nf ns si : Int} (h : sm_CT op a b fo Ht Tr Td Ls ar n nf ns si) (k : Int) (h0 : 0 ≤ k) (h1 : k < n) : (0 ≤ op k ∧ op k ≤ 30 ∧ 0 ≤ fo k ∧ fo k < nf ∧ 0 ≤ Ht k ∧ Ht k ≤ 396 ∧ Ht k ≤ k + 2 ∧ -1 ≤ Tr k ∧ Tr k < k ∧ 0 ≤ Td k ∧ Td k ≤ 40 ∧ -1 ≤ Ls k ∧ Ls k < k) := (h k h0 h1).1
theorem sm_ct_1 {op a b fo Ht Tr Td Ls ar : Int → Int} {n nf ns si : Int} (h : sm_CT op a b fo Ht Tr Td Ls ar n nf ns si) (k : Int) (h0 : 0 ≤ k) (h1 : k < n) : (0 ≤ Tr k → op (Tr k) = 27 ∧ fo (Tr k) = fo k ∧ Td k = Td (Tr k) + 1) := (h k h0 h1).2.1
theorem sm_ct_2 {op a b fo Ht Tr Td Ls ar : Int → Int} {n nf ns si : Int} (h : sm_CT op a b fo Ht Tr Td Ls ar n nf ns si) (k : Int) (h0 : 0 ≤ k) (h1 : k < n) : (Tr k = -1 → Td k = 0) := (h k h0 h1).2.2.1
theorem sm_ct_3 {op a b fo Ht Tr Td Ls ar : Int → Int} {n nf ns si : Int} (h : sm_CT op a b fo Ht Tr Td Ls ar n nf ns si) (k : Int) (h0 : 0 ≤ k) (h1 : k < n) : (0 ≤ Ls k → op (Ls k) = 29 ∧ fo (Ls k) = fo k ∧ Ht (Ls k) ≤ Ht k ∧ 1 ≤ Ht (Ls k)) := (h k h0 h1).2.2.2.1
theorem sm_ct_4 {op a b fo Ht Tr Td Ls ar : Int → Int} {n nf ns si : Int} (h : sm_CT op a b fo Ht Tr Td Ls ar n nf ns si) (k : Int) (h0 : 0 ≤ k) (h1 : k < n) : (op k = 0 → (0 ≤ a k ∧ a k ≤ 6 ∧ (a k = 6 → 0 ≤ b k ∧ b k < ns)) ∧ sm_lo Ht Tr Ls k (Ht k) ∧ sm_at fo Ht Tr Ls n k (k + 1) (fo k) (Ht k + 1) (Tr k) (Ls k)) := (h k h0 h1).2.2.2.2.1
theorem sm_ct_5 {op a b fo Ht Tr Td Ls ar : Int → Int} {n nf ns si : Int} (h : sm_CT op a b fo Ht Tr Td Ls ar n nf ns si) (k : Int) (h0 : 0 ≤ k) (h1 : k < n) : ((op k = 1 ∨ op k = 3 ∨ op k = 5) → (0 ≤ a k ∧ 0 ≤ b k ∧ b k < ns) ∧ sm_lo Ht Tr Ls k (Ht k) ∧ sm_at fo Ht Tr Ls n k (k + 1) (fo k) (Ht k + 1) (Tr k) (Ls k)) := (h k h0 h1).2.2.2.2.2.1
theorem sm_ct_6 {op a b fo Ht Tr Td Ls ar : Int → Int} {n nf ns si : Int} (h : sm_CT op a b fo Ht Tr Td Ls ar n nf ns si) (k : Int) (h0 : 0 ≤ k) (h1 : k < n) : ((op k = 2 ∨ op k = 4) → (0 ≤ a k ∧ 0 ≤ b k ∧ b k < ns) ∧ sm_lo Ht Tr Ls k (Ht k - 1) ∧ sm_at fo Ht Tr Ls n k (k + 1) (fo k) (Ht k) (Tr k) (Ls k)) := (h k h0 h1).2.2.2.2.2.2.1
theorem sm_ct_7 {op a b fo Ht Tr Td Ls ar : Int → Int} {n nf ns si : Int} (h : sm_CT op a b fo Ht Tr Td Ls ar n nf ns si) (k : Int) (h0 : 0 ≤ k) (h1 : k < n) : (op k = 6 → sm_lo Ht Tr Ls k (Ht k) ∧ sm_at fo Ht Tr Ls n k (k + 1) (fo k) (Ht k + 1) (Tr k) (Ls k)) := (h k h0 h1).2.2.2.2.2.2.2.1
theorem sm_ct_8 {op a b fo Ht Tr Td Ls ar : Int → Int} {n nf ns si : Int} (h : sm_CT op a b fo Ht Tr Td Ls ar n nf ns si) (k : Int) (h0 : 0 ≤ k) (h1 : k < n) : ((op k = 7 ∨ op k = 8) → (0 ≤ a k ∧ a k < si) ∧ sm_lo Ht Tr Ls k (Ht k) ∧ sm_at fo Ht Tr Ls n k (k + 1) (fo k) (Ht k + 1) (Tr k) (Ls k)) := (h k h0 h1).2.2.2.2.2.2.2.2.1
theorem sm_ct_9 {op a b fo Ht Tr Td Ls ar : Int → Int} {n nf ns si : Int} (h : sm_CT op a b fo Ht Tr Td Ls ar n nf ns si) (k : Int) (h0 : 0 ≤ k) (h1 : k < n) : (op k = 9 → (1 ≤ a k ∧ a k < nf ∧ ar (a k) = fo k) ∧ sm_lo Ht Tr Ls k (Ht k) ∧ sm_at fo Ht Tr Ls n k (k + 1) (fo k) (Ht k + 1) (Tr k) (Ls k)) := (h k h0 h1).2.2.2.2.2.2.2.2.2.1
theorem sm_ct_10 {op a b fo Ht Tr Td Ls ar : Int → Int} {n nf ns si : Int} (h : sm_CT op a b fo Ht Tr Td Ls ar n nf ns si) (k : Int) (h0 : 0 ≤ k) (h1 : k < n) : ((op k = 10 ∨ op k = 12) → sm_lo Ht Tr Ls k (Ht k - 2) ∧ sm_at fo Ht Tr Ls n k (k + 1) (fo k) (Ht k - 1) (Tr k) (Ls k)) := (h k h0 h1).2.2.2.2.2.2.2.2.2.2.1
theorem sm_ct_11 {op a b fo Ht Tr Td Ls ar : Int → Int} {n nf ns si : Int} (h : sm_CT op a b fo Ht Tr Td Ls ar n nf ns si) (k : Int) (h0 : 0 ≤ k) (h1 : k < n) : (op k = 11 → sm_lo Ht Tr Ls k (Ht k - 3) ∧ sm_at fo Ht Tr Ls n k (k + 1) (fo k) (Ht k - 2) (Tr k) (Ls k)) := (h k h0 h1).2.2.2.2.2.2.2.2.2.2.2.1
theorem sm_ct_12 {op a b fo Ht Tr Td Ls ar : Int → Int} {n nf ns si : Int} (h : sm_CT op a b fo Ht Tr Td Ls ar n nf ns si) (k : Int) (h0 : 0 ≤ k) (h1 : k < n) : (op k = 13 → (0 ≤ a k ∧ a k ≤ 4) ∧ sm_lo Ht Tr Ls k (Ht k - 1) ∧ sm_at fo Ht Tr Ls n k (k + 1) (fo k) (Ht k) (Tr k) (Ls k)) := (h k h0 h1).2.2.2.2.2.2.2.2.2.2.2.2.1
theorem sm_ct_13 {op a b fo Ht Tr Td Ls ar : Int → Int} {n nf ns si : Int} (h : sm_CT op a b fo Ht Tr Td Ls ar n nf ns si) (k : Int) (h0 : 0 ≤ k) (h1 : k < n) : (op k = 14 → (0 ≤ a k ∧ a k ≤ 20) ∧ sm_lo Ht Tr Ls k (Ht k - 2) ∧ sm_at fo Ht Tr Ls n k (k + 1) (fo k) (Ht k - 1) (Tr k) (Ls k)) := (h k h0 h1).2.2.2.2.2.2.2.2.2.2.2.2.2.1
theorem sm_ct_14 {op a b fo Ht Tr Td Ls ar : Int → Int} {n nf ns si : Int} (h : sm_CT op a b fo Ht Tr Td Ls ar n nf ns si) (k : Int) (h0 : 0 ≤ k) (h1 : k < n) : (op k = 15 → (0 ≤ a k ∧ a k ≤ 8) ∧ sm_lo Ht Tr Ls k (Ht k - a k - 2) ∧ sm_at fo Ht Tr Ls n k (k + 1) (fo k) (Ht k - a k - 1) (Tr k) (Ls k)) := (h k h0 h1).2.2.2.2.2.2.2.2.2.2.2.2.2.2.1
theorem sm_ct_15 {op a b fo Ht Tr Td Ls ar : Int → Int} {n nf ns si : Int} (h : sm_CT op a b fo Ht Tr Td Ls ar n nf ns si) (k : Int) (h0 : 0 ≤ k) (h1 : k < n) : (op k = 16 → (0 ≤ a k ∧ a k ≤ 8 ∧ 0 ≤ b k ∧ b k < si) ∧ sm_lo Ht Tr Ls k (Ht k - a k - 1) ∧ sm_at fo Ht Tr Ls n k (k + 1) (fo k) (Ht k - a k) (Tr k) (Ls k)) := (h k h0 h1).2.2.2.2.2.2.2.2.2.2.2.2.2.2.2.1
theorem sm_ct_16 {op a b fo Ht Tr Td Ls ar : Int → Int} {n nf ns si : Int} (h : sm_CT op a b fo Ht Tr Td Ls ar n nf ns si) (k : Int) (h0 : 0 ≤ k) (h1 : k < n) : (op k = 17 → 1 ≤ Ht k ∧ (0 ≤ Tr k → Ht (Tr k) ≤ Ht k - 1) ∧ ((0 ≤ Ls k ∧ Ht (Ls k) = Ht k ∧ sm_at fo Ht Tr Ls n k (k + 1) (fo k) (Ht k - 1) (Tr k) (Ls (Ls k))) ∨ ((0 ≤ Ls k → Ht (Ls k) ≤ Ht k - 1) ∧ sm_at fo Ht Tr Ls n k (k + 1) (fo k) (Ht k - 1) (Tr k) (Ls k)))) := (h k h0 h1).2.2.2.2.2.2.2.2.2.2.2.2.2.2.2.2.1
theorem sm_ct_17 {op a b fo Ht Tr Td Ls ar : Int → Int} {n nf ns si : Int} (h : sm_CT op a b fo Ht Tr Td Ls ar n nf ns si) (k : Int) (h0 : 0 ≤ k) (h1 : k < n) : (op k = 18 → sm_lo Ht Tr Ls k (Ht k - 1) ∧ sm_at fo Ht Tr Ls n k (k + 1) (fo k) (Ht k + 1) (Tr k) (Ls k)) := (h k h0 h1).2.2.2.2.2.2.2.2.2.2.2.2.2.2.2.2.2.1
theorem sm_ct_18 {op a b fo Ht Tr Td Ls ar : Int → Int} {n nf ns si : Int} (h : sm_CT op a b fo Ht Tr Td Ls ar n nf ns si) (k : Int) (h0 : 0 ≤ k) (h1 : k < n) : (op k = 19 → sm_lo Ht Tr Ls k (Ht k - 2) ∧ sm_at fo Ht Tr Ls n k (k + 1) (fo k) (Ht k + 2) (Tr k) (Ls k)) := (h k h0 h1).2.2.2.2.2.2.2.2.2.2.2.2.2.2.2.2.2.2.1
theorem sm_ct_19 {op a b fo Ht Tr Td Ls ar : Int → Int} {n nf ns si : Int} (h : sm_CT op a b fo Ht Tr Td Ls ar n nf ns si) (k : Int) (h0 : 0 ≤ k) (h1 : k < n) : (op k = 20 → sm_lo Ht Tr Ls k (Ht k - 3) ∧ sm_at fo Ht Tr Ls n k (k + 1) (fo k) (Ht k + 1) (Tr k) (Ls k)) := (h k h0 h1).2.2.2.2.2.2.2.2.2.2.2.2.2.2.2.2.2.2.2.1
theorem sm_ct_20 {op a b fo Ht Tr Td Ls ar : Int → Int} {n nf ns si : Int} (h : sm_CT op a b fo Ht Tr Td Ls ar n nf ns si) (k : Int) (h0 : 0 ≤ k) (h1 : k < n) : (op k = 21 → sm_lo Ht Tr Ls k (Ht k) ∧ sm_at fo Ht Tr Ls n k (a k) (fo k) (Ht k) (Tr k) (Ls k)) := (h k h0 h1).2.2.2.2.2.2.2.2.2.2.2.2.2.2.2.2.2.2.2.2.1
theorem sm_ct_21 {op a b fo Ht Tr Td Ls ar : Int → Int} {n nf ns si : Int} (h : sm_CT op a b fo Ht Tr Td Ls ar n nf ns si) (k : Int) (h0 : 0 ≤ k) (h1 : k < n) : (op k = 22 → sm_lo Ht Tr Ls k (Ht k - 1) ∧ sm_at fo Ht Tr Ls n k (k + 1) (fo k) (Ht k - 1) (Tr k) (Ls k) ∧ sm_at fo Ht Tr Ls n k (a k) (fo k) (Ht k - 1) (Tr k) (Ls k)) := (h k h0 h1).2.2.2.2.2.2.2.2.2.2.2.2.2.2.2.2.2.2.2.2.2.1
theorem sm_ct_22 {op a b fo Ht Tr Td Ls ar : Int → Int} {n nf ns si : Int} (h : sm_CT op a b fo Ht Tr Td Ls ar n nf ns si) (k : Int) (h0 : 0 ≤ k) (h1 : k < n) : ((op k = 23 ∨ op k = 24) → sm_lo Ht Tr Ls k (Ht k - 1) ∧ sm_at fo Ht Tr Ls n k (k + 1) (fo k) (Ht k - 1) (Tr k) (Ls k) ∧ sm_at fo Ht Tr Ls n k (a k) (fo k) (Ht k) (Tr k) (Ls k)) := (h k h0 h1).2.2.2.2.2.2.2.2.2.2.2.2.2.2.2.2.2.2.2.2.2.2.1
theorem sm_ct_23 {op a b fo Ht Tr Td Ls ar : Int → Int} {n nf ns si : Int} (h : sm_CT op a b fo Ht Tr Td Ls ar n nf ns si) (k : Int) (h0 : 0 ≤ k) (h1 : k < n) : ((op k = 25 ∨ op k = 26) → sm_lo Ht Tr Ls k (Ht k - 1)) := (h k h0 h1).2.2.2.2.2.2.2.2.2.2.2.2.2.2.2.2.2.2.2.2.2.2.2.1
theorem sm_ct_24 {op a b fo Ht Tr Td Ls ar : Int → Int} {n nf ns si : Int} (h : sm_CT op a b fo Ht Tr Td Ls ar n nf ns si) (k : Int) (h0 : 0 ≤ k) (h1 : k < n) : (op k = 27 → Td k < 40 ∧ sm_lo Ht Tr Ls k (Ht k) ∧ sm_at fo Ht Tr Ls n k (k + 1) (fo k) (Ht k) k (Ls k) ∧ sm_at fo Ht Tr Ls n k (a k) (fo k) (Ht k + 1) (Tr k) (Ls k)) := (h k h0 h1).2.2.2.2.2.2.2.2.2.2.2.2.2.2.2.2.2.2.2.2.2.2.2.2.1
theorem sm_ct_25 {op a b fo Ht Tr Td Ls ar : Int → Int} {n nf ns si : Int} (h : sm_CT op a b fo Ht Tr Td Ls ar n nf ns si) (k : Int) (h0 : 0 ≤ k) (h1 : k < n) : (op k = 28 → 0 ≤ Tr k ∧ sm_lo Ht Tr Ls k (Ht k) ∧ sm_at fo Ht Tr Ls n k (k + 1) (fo k) (Ht k) (Tr (Tr k)) (Ls k)) := (h k h0 h1).2.2.2.2.2.2.2.2.2.2.2.2.2.2.2.2.2.2.2.2.2.2.2.2.2.1
theorem sm_ct_26 {op a b fo Ht Tr Td Ls ar : Int → Int} {n nf ns si : Int} (h : sm_CT op a b fo Ht Tr Td Ls ar n nf ns si) (k : Int) (h0 : 0 ≤ k) (h1 : k < n) : (op k = 29 → sm_lo Ht Tr Ls k (Ht k - 1) ∧ sm_at fo Ht Tr Ls n k (k + 1) (fo k) (Ht k) (Tr k) k) := (h k h0 h1).2.2.2.2.2.2.2.2.2.2.2.2.2.2.2.2.2.2.2.2.2.2.2.2.2.2.1
theorem sm_ct_27 {op a b fo Ht Tr Td Ls ar : Int → Int} {n nf ns si : Int} (h : sm_CT op a b fo Ht Tr Td Ls ar n nf ns si) (k : Int) (h0 : 0 ≤ k) (h1 : k < n) : (op k = 30 → 0 ≤ Ls k ∧ Ht (Ls k) = Ht k ∧ 1 ≤ Ht k ∧ (0 ≤ Tr k → Ht (Tr k) ≤ Ht k - 1) ∧ sm_at fo Ht Tr Ls n k (k + 1) (fo k) (Ht k + 1) (Tr k) (Ls k) ∧ sm_at fo Ht Tr Ls n k (a k) (fo k) (Ht k - 1) (Tr k) (Ls (Ls k))) := (h k h0 h1).2.2.2.2.2.2.2.2.2.2.2.2.2.2.2.2.2.2.2.2.2.2.2.2.2.2.2
def sm_NH (H : Int → Int) : Prop := ∀ x : Int, 0 ≤ x → x < 640 → 0 ≤ H x ∧ H x ≤ 400
theorem sm_hs_0 {R H : Int → Int} (h : sm_NH H) : 0 ≤ sm_hs R H := by
  have := sm_su_r (f := fun x => if R x = 0 then H x else 0) (M := 400) _ 640 rfl (by decide) (fun x x0 x1 => by
    have := h x x0 x1
    (try dsimp only)
    split <;> omega)
  exact this.1
theorem sm_NH_at {H : Int → Int} (h : sm_NH H) (x : Int) (h0 : 0 ≤ x) (h1 : x < 640) : 0 ≤ H x ∧ H x ≤ 400 := h x h0 h1
theorem sm_dp_k {op a b fo Ht Tr Td Ls ar : Int → Int} {n nf ns si : Int} (h : sm_CT op a b fo Ht Tr Td Ls ar n nf ns si) (k : Int) (h0 : 0 ≤ k) (h1 : k < n) : Td k = sm_dp Td (Tr k) := by
  have a0 := sm_ct_0 h k h0 h1
  have a1 := sm_ct_1 h k h0 h1
  have a2 := sm_ct_2 h k h0 h1
  unfold sm_dp
  split
  · exact a2 (by omega)
  · exact (a1 (by omega)).2.2
theorem sm_dp_n {Td : Int → Int} {t : Int} (h : t < 0) : sm_dp Td t = 0 := if_pos h
theorem sm_dp_s {Td : Int → Int} {t : Int} (h : 0 ≤ t) : sm_dp Td t = Td t + 1 := if_neg (by omega)
/-- what a toss finds: the handler of the innermost open try -/
theorem sm_TC_toss {tp th op a b fo Ht Tr Td Ls ar : Int → Int} {n nf ns si t : Int} (h : sm_CT op a b fo Ht Tr Td Ls ar n nf ns si) (q : sm_TC tp th a Ht Tr Td 25560 t) (h0 : 0 ≤ t) (h1 : t < n) (ho : op t = 27) : (0 ≤ Td t ∧ Td t < 40 ∧ sm_dp Td t = Td t + 1 ∧ Td t = sm_dp Td (Tr t) ∧ -1 ≤ Tr t ∧ Tr t < t) ∧ (tp (25560 + Td t) = a t ∧ th (25560 + Td t) = Ht t ∧ 0 ≤ Ht t ∧ Ht t ≤ 396) ∧ (0 ≤ a t ∧ a t < n ∧ Ht (a t) = Ht t + 1 ∧ Tr (a t) = Tr t) ∧ (0 ≤ Tr t → op (Tr t) = 27) ∧ sm_TC tp th a Ht Tr Td 25560 (Tr t) := by
  have a0 := sm_ct_0 h t h0 h1
  have a1 := sm_ct_1 h t h0 h1
  have a24 := sm_ct_24 h t h0 h1 ho
  have d := sm_dp_k h t h0 h1
  obtain ⟨e1, e2⟩ := sm_TC_top q h0 ⟨by omega, by omega⟩ (by omega)
  have m := a24.2.2.2
  unfold sm_at at m
  exact ⟨⟨by omega, a24.1, sm_dp_s h0, d, by omega, by omega⟩, ⟨e1, e2, by omega, by omega⟩, ⟨m.1, m.2.1, m.2.2.2.1, m.2.2.2.2.1⟩, fun z => (a1 z).1, sm_TC_pop q h0 ⟨by omega, by omega⟩ d⟩
theorem sm_01 {p : Prop} [Decidable p] {a : Int} (h : 0 ≤ a ∧ a ≤ 1) : 0 ≤ (if p then 1 else a) ∧ (if p then 1 else a) ≤ 1 := by split <;> omega
theorem sm_CQ_eq {tp th tp0 th0 : Int → Int} {c b k k' : Int} (h : sm_CQ tp th tp0 th0 c b k) (e : k' = k) : sm_CQ tp th tp0 th0 c b k' := e ▸ h
def sm_cm (R : Int → Int) : Int := 100000000 * sm_cn R
theorem sm_cm_up {R : Int → Int} {i : Int} (h0 : 0 ≤ i) (h1 : i < 640) (h : R i = 0) : sm_cm (fun i' : Int => if i' = i then 1 else R i') = sm_cm R - 100000000 := by
  unfold sm_cm
  rw [sm_cn_r h0 h1]
  omega
theorem sm_cm_b {R : Int → Int} (h : ∀ x, 0 ≤ R x ∧ R x ≤ 1) : 0 ≤ sm_cm R := by
  have := sm_cn_b h
  unfold sm_cm
  omega
def sm_VN (vs vm : Int → Int) (nf ns : Int) : Prop := ∀ g k : Int, 1 ≤ g → g < nf → 0 ≤ k → k < vm g → 0 ≤ vs (100 * g + k) ∧ vs (100 * g + k) < ns
theorem sm_VN_at {vs vm : Int → Int} {nf ns : Int} (h : sm_VN vs vm nf ns) (g k : Int) (h1 : 1 ≤ g) (h2 : g < nf) (h3 : 0 ≤ k) (h4 : k < vm g) : 0 ≤ vs (100 * g + k) ∧ vs (100 * g + k) < ns := h g k h1 h2 h3 h4
theorem sm_ST_z {R H SA TR TP TH a Ht Tr Td : Int → Int} {n P stk : Int} (h : ∀ k : Int, 0 ≤ k → k < P → R k = 0) : sm_ST R H SA TR TP TH a Ht Tr Td n P stk := fun st h0 h1 h2 => by
  rw [h st h0 h1] at h2
  exact absurd h2 (by decide)
theorem sm_su_m {f g : Int → Int} : ∀ (k : Nat) (n : Int), n.toNat = k → (∀ x : Int, 0 ≤ x → x < n → f x ≤ g x) → sm_su f n ≤ sm_su g n := by
  intro k
  induction k with
  | zero => intro n hn h; rw [sm_su_0 (f := f) (n := n) (by omega), sm_su_0 (f := g) (n := n) (by omega)]; exact Int.le_refl _
  | succ k ih =>
    intro n hn h
    rw [sm_su_s (f := f) (n := n) (by omega), sm_su_s (f := g) (n := n) (by omega)]
    have a := ih (n - 1) (by omega) (fun x h0 h1 => h x h0 (by omega))
    have b := h (n - 1) (by omega) (by omega)
    omega
theorem sm_hs_le {R H : Int → Int} (h : sm_NH H) (_ : ∀ x, 0 ≤ R x ∧ R x ≤ 1) : sm_hs R H ≤ sm_su H 640 := sm_su_m _ 640 rfl (fun x h0 h1 => by
  have := h x h0 h1
  (try dsimp only)
  split <;> omega)
def sm_DR (D R : Int → Int) (n : Int) : Prop := ∀ k : Int, 0 ≤ k → k < n → D k = 1 → R k = 1
theorem sm_DR_at {D R : Int → Int} {n : Int} (h : sm_DR D R n) (k : Int) (h0 : 0 ≤ k) (h1 : k < n) (h2 : D k = 1) : R k = 1 := h k h0 h1 h2
theorem sm_DR_z {D R : Int → Int} {n : Int} (h : ∀ k : Int, 0 ≤ k → k < n → D k = 0) : sm_DR D R n := fun k h0 h1 h2 => by
  rw [h k h0 h1] at h2
  exact absurd h2 (by decide)
theorem sm_DR_r {D R : Int → Int} {n i x : Int} (h : sm_DR D R n) (hx : x = 1) : sm_DR D (fun i' : Int => if i' = i then x else R i') n := fun k h0 h1 h2 => by
  (try dsimp only)
  by_cases q : k = i
  · rw [if_pos q]; exact hx
  · rw [if_neg q]; exact h k h0 h1 h2
theorem sm_DR_d {D R : Int → Int} {n i x : Int} (h : sm_DR D R n) (hx : x = 0 ∨ R i = 1) : sm_DR (fun i' : Int => if i' = i then x else D i') R n := fun k h0 h1 h2 => by
  (try dsimp only at h2)
  by_cases q : k = i
  · rw [if_pos q] at h2
    rcases hx with hx | hx
    · omega
    · rw [q]; exact hx
  · rw [if_neg q] at h2; exact h k h0 h1 h2
theorem sm_DR_m {D R R' : Int → Int} {n : Int} (h : sm_DR D R n) (m : ∀ k : Int, R k = 1 → R' k = 1) : sm_DR D R' n := fun k h0 h1 h2 => m k (h k h0 h1 h2)

