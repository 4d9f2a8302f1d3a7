theorem dX12_gives_0 : decode cX12_gives 0 = .ok (.aload_n 0, 1) := by decide +kernel
theorem dX12_gives_1 : decode cX12_gives 1 = .ok (.getfield 794, 3) := by decide +kernel
theorem dX12_gives_4 : decode cX12_gives 4 = .ok (.ifCond .ne 11, 3) := by decide +kernel
theorem dX12_gives_7 : decode cX12_gives 7 = .ok (.aload_n 0, 1) := by decide +kernel
theorem dX12_gives_8 : decode cX12_gives 8 = .ok (.getfield 773, 3) := by decide +kernel
theorem dX12_gives_11 : decode cX12_gives 11 = .ok (.iconst 1, 1) := by decide +kernel
theorem dX12_gives_12 : decode cX12_gives 12 = .ok (.if_icmp .eq 4, 3) := by decide +kernel
theorem dX12_gives_15 : decode cX12_gives 15 = .ok (.return_, 1) := by decide +kernel
theorem dX12_gives_16 : decode cX12_gives 16 = .ok (.aload_n 0, 1) := by decide +kernel
theorem dX12_gives_17 : decode cX12_gives 17 = .ok (.iload_n 1, 1) := by decide +kernel
theorem dX12_gives_18 : decode cX12_gives 18 = .ok (.invokevirtual 882, 3) := by decide +kernel
theorem dX12_gives_21 : decode cX12_gives 21 = .ok (.aload_n 0, 1) := by decide +kernel
theorem dX12_gives_22 : decode cX12_gives 22 = .ok (.aload_n 0, 1) := by decide +kernel
theorem dX12_gives_23 : decode cX12_gives 23 = .ok (.getfield 788, 3) := by decide +kernel
theorem dX12_gives_26 : decode cX12_gives 26 = .ok (.aload_n 0, 1) := by decide +kernel
theorem dX12_gives_27 : decode cX12_gives 27 = .ok (.getfield 791, 3) := by decide +kernel
theorem dX12_gives_30 : decode cX12_gives 30 = .ok (.invokevirtual 885, 3) := by decide +kernel
theorem dX12_gives_33 : decode cX12_gives 33 = .ok (.aload_n 0, 1) := by decide +kernel
theorem dX12_gives_34 : decode cX12_gives 34 = .ok (.invokevirtual 888, 3) := by decide +kernel
theorem dX12_gives_37 : decode cX12_gives 37 = .ok (.return_, 1) := by decide +kernel
/-! THE MACHINE'S FRAMES. which slots hold a LIST: the chain of NAMES_OF that are open (il); SK a frame's stack up to h; FL all frames below T -/
def sm_il (Ht Ls : Int → Int) (q s : Int) : Int := if h : 0 ≤ q ∧ Ls q < q then (if s = Ht q - 1 then 1 else sm_il Ht Ls (Ls q) s) else 0
termination_by (q + 1).toNat
decreasing_by omega
theorem sm_il_n {Ht Ls : Int → Int} {q s : Int} (h : q < 0) : sm_il Ht Ls q s = 0 := by
  rw [sm_il.eq_def, dif_neg (by omega)]
theorem sm_il_y {Ht Ls : Int → Int} {q s : Int} (h : 0 ≤ q ∧ Ls q < q) (hs : s = Ht q - 1) : sm_il Ht Ls q s = 1 := by
  rw [sm_il.eq_def, dif_pos h, if_pos hs]
theorem sm_il_s {Ht Ls : Int → Int} {q s : Int} (h : 0 ≤ q ∧ Ls q < q) (hs : ¬ s = Ht q - 1) : sm_il Ht Ls q s = sm_il Ht Ls (Ls q) s := by
  rw [sm_il.eq_def, dif_pos h, if_neg hs]
/-- the lists lie one above the other -/
def sm_LH (Ht Ls : Int → Int) (n : Int) : Prop := ∀ q : Int, 0 ≤ q → q < n → -1 ≤ Ls q ∧ Ls q < q ∧ (0 ≤ Ls q → Ht (Ls q) ≤ Ht q)
/-- of NAMES_OF itself the outer list lies strictly below -/
def sm_LS (op Ht Ls : Int → Int) (n : Int) : Prop := ∀ q : Int, 0 ≤ q → q < n → op q = 29 → 1 ≤ Ht q ∧ (0 ≤ Ls q → op (Ls q) = 29 ∧ Ht (Ls q) ≤ Ht q - 1) ∧ -1 ≤ Ls q ∧ Ls q < q
theorem sm_LS_ct {op a b fo Ht Tr Td Ls ar : Int → Int} {n nf ns si : Int} (h : sm_CT op a b fo Ht Tr Td Ls ar n nf ns si) : sm_LS op Ht Ls n := fun q q0 q1 ho => by
  have c0 := sm_ct_0 h q q0 q1
  have c3 := sm_ct_3 h q q0 q1
  have c26 := sm_ct_26 h q q0 q1 ho
  have l := c26.1
  unfold sm_lo at l
  exact ⟨by omega, fun z => ⟨(c3 z).1, l.2.2 z⟩, by omega, by omega⟩
theorem sm_il_hi {op Ht Ls : Int → Int} {n : Int} (h : sm_LS op Ht Ls n) : ∀ (k : Nat) (q s : Int), (q + 1).toNat = k → q < n → (0 ≤ q → op q = 29 ∧ Ht q ≤ s) → sm_il Ht Ls q s = 0 := by
  intro k
  induction k using Nat.strongRecOn with
  | ind k ih =>
    intro q s hk hq hs
    by_cases h0 : q < 0
    · exact sm_il_n h0
    · have a := hs (by omega)
      have b := h q (by omega) hq a.1
      rw [sm_il_s ⟨by omega, b.2.2.2⟩ (by omega)]
      refine ih ((Ls q) + 1).toNat (by omega) (Ls q) s rfl (by omega) (fun z => ?_)
      have := b.2.1 z
      exact ⟨this.1, by omega⟩
def sm_SK (ss sv so Ht Ls : Int → Int) (nb ns base h q : Int) : Prop := ∀ s : Int, 0 ≤ s → s < h → (sm_il Ht Ls q s = 1 → ss (base + s) = 8 ∧ -1 ≤ sv (base + s) ∧ sv (base + s) < nb) ∧ (¬ sm_il Ht Ls q s = 1 → sm_VO so nb ns (ss (base + s)) (sv (base + s)))
theorem sm_SK_0 {ss sv so Ht Ls : Int → Int} {nb ns base h q : Int} (hh : h ≤ 0) : sm_SK ss sv so Ht Ls nb ns base h q := fun s h0 h1 => by omega
theorem sm_SK_pop {ss sv so Ht Ls : Int → Int} {nb ns base h h' q : Int} (k : sm_SK ss sv so Ht Ls nb ns base h q) (hh : h' ≤ h) : sm_SK ss sv so Ht Ls nb ns base h' q := fun s h0 h1 => k s h0 (by omega)
theorem sm_SK_m {ss sv so so' Ht Ls : Int → Int} {nb ns nb' ns' base h q : Int} (k : sm_SK ss sv so Ht Ls nb ns base h q) (hn : nb ≤ nb') (hs : ns ≤ ns') (f : sm_F1 so so' nb) : sm_SK ss sv so' Ht Ls nb' ns' base h q := fun s h0 h1 => by
  obtain ⟨a, b⟩ := k s h0 h1
  exact ⟨fun z => by have := a z; omega, fun z => sm_VO_m (b z) hn hs f⟩
theorem sm_SK_F {ss sv ss' sv' so Ht Ls : Int → Int} {nb ns base h q m m2 : Int} (k : sm_SK ss sv so Ht Ls nb ns base h q) (f : sm_F1 ss ss' m) (g : sm_F1 sv sv' m2) (hm : base + h ≤ m) (hm2 : base + h ≤ m2) : sm_SK ss' sv' so Ht Ls nb ns base h q := fun s h0 h1 => by
  rw [f (base + s) (by omega), g (base + s) (by omega)]
  exact k s h0 h1
/-- the values of the topmost slots -/
theorem sm_SK_at {ss sv so op Ht Ls : Int → Int} {nb ns base h q n : Int} (k : sm_SK ss sv so Ht Ls nb ns base h q) (l : sm_LS op Ht Ls n) (s : Int) (h0 : 0 ≤ s) (h1 : s < h) (hq : q < n) (hl : 0 ≤ q → op q = 29 ∧ Ht q ≤ s) : sm_VO so nb ns (ss (base + s)) (sv (base + s)) := (k s h0 h1).2 (by
  rw [sm_il_hi l _ q s rfl hq hl]
  decide)
theorem sm_SK_list {ss sv so op Ht Ls : Int → Int} {nb ns base h q n : Int} (k : sm_SK ss sv so Ht Ls nb ns base h q) (l : sm_LS op Ht Ls n) (h0 : 0 ≤ q) (h1 : q < n) (ho : op q = 29) (hq : Ht q = h) : ss (base + h - 1) = 8 ∧ -1 ≤ sv (base + h - 1) ∧ sv (base + h - 1) < nb := by
  have b := l q h0 h1 ho
  have := (k (h - 1) (by omega) (by omega)).1 (sm_il_y ⟨h0, b.2.2.2⟩ (by omega))
  rw [show base + (h - 1) = base + h - 1 by omega] at this
  exact this
theorem sm_SK_push {ss sv so op Ht Ls : Int → Int} {nb ns base h h' q n i : Int} (k : sm_SK ss sv so Ht Ls nb ns base h q) (l : sm_LS op Ht Ls n) (hq : q < n) (hl : 0 ≤ q → op q = 29 ∧ Ht q ≤ h) (hi : i = base + h) (v : sm_VO so nb ns (ss i) (sv i)) (hh : h' = h + 1) : sm_SK ss sv so Ht Ls nb ns base h' q := fun s h0 h1 => by
  by_cases z : s = h
  · refine ⟨fun w => ?_, fun _ => by rw [z, ← hi]; exact v⟩
    rw [z, sm_il_hi l _ q h rfl hq hl] at w
    exact absurd w (by decide)
  · exact k s h0 (by omega)
theorem sm_SK_names {ss sv so op Ht Ls : Int → Int} {nb ns base h h' q p n i : Int} (k : sm_SK ss sv so Ht Ls nb ns base h q) (l : sm_LS op Ht Ls n) (h0 : 0 ≤ p) (h1 : p < n) (ho : op p = 29) (hq : Ls p = q) (hp : Ht p = h + 1) (hi : i = base + h) (v : ss i = 8 ∧ -1 ≤ sv i ∧ sv i < nb) (hh : h' = h + 1) : sm_SK ss sv so Ht Ls nb ns base h' p := fun s s0 s1 => by
  have b := l p h0 h1 ho
  by_cases z : s = h
  · refine ⟨fun _ => by rw [z, ← hi]; exact v, fun w => absurd (sm_il_y ⟨h0, b.2.2.2⟩ (by omega)) w⟩
  · rw [sm_il_s ⟨h0, b.2.2.2⟩ (by omega), hq]
    exact k s s0 (by omega)
theorem sm_SK_dropl {ss sv so op Ht Ls : Int → Int} {nb ns base h h' q n : Int} (k : sm_SK ss sv so Ht Ls nb ns base h q) (l : sm_LS op Ht Ls n) (h0 : 0 ≤ q) (h1 : q < n) (ho : op q = 29) (hq : Ht q = h) (hh : h' = h - 1) : sm_SK ss sv so Ht Ls nb ns base h' (Ls q) := fun s s0 s1 => by
  have b := l q h0 h1 ho
  have := k s s0 (by omega)
  rw [sm_il_s ⟨h0, b.2.2.2⟩ (by omega)] at this
  exact this
/-- within a try the lists below it are as they were -/
def sm_CL (Ht Tr Ls : Int → Int) (n : Int) : Prop := ∀ k : Int, 0 ≤ k → k < n → 0 ≤ Tr k → ∀ s : Int, 0 ≤ s → s < Ht (Tr k) → sm_il Ht Ls (Ls k) s = sm_il Ht Ls (Ls (Tr k)) s
theorem sm_SK_toss {ss sv so Ht Tr Ls : Int → Int} {nb ns base h k n t : Int} (w : sm_SK ss sv so Ht Ls nb ns base h (Ls k)) (l : sm_CL Ht Tr Ls n) (h0 : 0 ≤ k) (h1 : k < n) (ht : Tr k = t) (ht0 : 0 ≤ t) (hh : Ht t ≤ h) : sm_SK ss sv so Ht Ls nb ns base (Ht t) (Ls t) := fun s s0 s1 => by
  have e := l k h0 h1 (by omega) s s0 (by rw [ht]; exact s1)
  rw [ht] at e
  rw [← e]
  exact w s s0 (by omega)
theorem sm_SK_q {ss sv so Ht Ls : Int → Int} {nb ns base h q q' h' base' : Int} (k : sm_SK ss sv so Ht Ls nb ns base h q) (e : q' = q) (eh : h' = h) (eb : base' = base) : sm_SK ss sv so Ht Ls nb ns base' h' q' := e ▸ eh ▸ eb ▸ k
/-! a frame that waits -/
def sm_F0 (ff fs fts ft fp fh fn ftr tpl thh ss sv a fo Ht Tr Td Ls op gs so : Int → Int) (n nf nb ns i : Int) : Prop :=
  (0 ≤ ff i ∧ ff i < nf ∧ 0 ≤ fp i ∧ fp i < n ∧ fo (fp i) = ff i ∧ fh i = Ht (fp i) - 1 ∧ 0 ≤ fh i ∧ fh i ≤ 396) ∧ (ftr i = sm_dp Td (Tr (fp i))) ∧ sm_TC tpl thh a Ht Tr Td (40 * i) (Tr (fp i)) ∧ sm_SK ss sv so Ht Ls nb ns (400 * i) (fh i) (Ls (fp i)) ∧
  (0 ≤ Ls (fp i) → op (Ls (fp i)) = 29 ∧ Ht (Ls (fp i)) ≤ fh i) ∧ (0 ≤ Tr (fp i) → op (Tr (fp i)) = 27 ∧ Ht (Tr (fp i)) ≤ fh i) ∧ sm_LK gs nb (fs i) (ff i) ∧ sm_VO so nb ns (fts i) (ft i) ∧ (fn i = -1 ∨ (0 ≤ fn i ∧ fn i < nb ∧ ¬ so (fn i) = 3))
def sm_FL (ff fs fts ft fp fh fn ftr tpl thh ss sv a fo Ht Tr Td Ls op gs so : Int → Int) (n nf nb ns T : Int) : Prop := ∀ i : Int, 0 ≤ i → i < T → sm_F0 ff fs fts ft fp fh fn ftr tpl thh ss sv a fo Ht Tr Td Ls op gs so n nf nb ns i
theorem sm_LK_m {gs gs' : Int → Int} {nb nb' x h : Int} (w : sm_LK gs nb x h) (hn : nb ≤ nb') (f : sm_F1 gs gs' nb) : sm_LK gs' nb' x h := by
  rcases w with w | w
  · exact Or.inl w
  · exact Or.inr ⟨w.1, w.2.1, by omega, (f x w.2.2.1).trans w.2.2.2⟩
theorem sm_LK_e {gs : Int → Int} {nb x h : Int} (w : sm_LK gs nb x h) : (h = 0 ∧ x = -1) ∨ (1 ≤ h ∧ 0 ≤ x ∧ x < nb ∧ gs x = h) := w
theorem sm_FL_0 {ff fs fts ft fp fh fn ftr tpl thh ss sv a fo Ht Tr Td Ls op gs so : Int → Int} {n nf nb ns T : Int} (h : T ≤ 0) : sm_FL ff fs fts ft fp fh fn ftr tpl thh ss sv a fo Ht Tr Td Ls op gs so n nf nb ns T := fun i i0 i1 => by omega
theorem sm_FL_w {ff fs fts ft fp fh fn ftr tpl thh ss sv a fo Ht Tr Td Ls op gs so : Int → Int} {n nf nb ns T T' : Int} (w : sm_FL ff fs fts ft fp fh fn ftr tpl thh ss sv a fo Ht Tr Td Ls op gs so n nf nb ns T) (h : T' ≤ T) : sm_FL ff fs fts ft fp fh fn ftr tpl thh ss sv a fo Ht Tr Td Ls op gs so n nf nb ns T' := fun i i0 i1 => w i i0 (by omega)
/-- nothing below T changes but that heap and names grow -/
theorem sm_FL_F {ff fs fts ft fp fh fn ftr tpl thh ss sv ff' fs' fts' ft' fp' fh' fn' ftr' tpl' thh' ss' sv' a fo Ht Tr Td Ls op gs so gs' so' : Int → Int} {n nf nb ns nb' ns' T : Int} (w : sm_FL ff fs fts ft fp fh fn ftr tpl thh ss sv a fo Ht Tr Td Ls op gs so n nf nb ns T)
    (e1 : sm_F1 ff ff' T) (e2 : sm_F1 fs fs' T) (e3 : sm_F1 fts fts' T) (e4 : sm_F1 ft ft' T) (e5 : sm_F1 fp fp' T) (e6 : sm_F1 fh fh' T) (e7 : sm_F1 fn fn' T) (e8 : sm_F1 ftr ftr' T) (e9 : sm_F1 tpl tpl' (40 * T)) (e10 : sm_F1 thh thh' (40 * T)) (e11 : sm_F1 ss ss' (400 * T)) (e12 : sm_F1 sv sv' (400 * T)) (hn : nb ≤ nb') (hs : ns ≤ ns') (g : sm_F1 gs gs' nb) (f : sm_F1 so so' nb) (ht : ∀ i : Int, 0 ≤ i → i < T → sm_dp Td (Tr (fp i)) ≤ 40) :
    sm_FL ff' fs' fts' ft' fp' fh' fn' ftr' tpl' thh' ss' sv' a fo Ht Tr Td Ls op gs' so' n nf nb' ns' T := fun i i0 i1 => by
  obtain ⟨a1, a2, a3, a4, a5, a6, a7, a8, a9⟩ := w i i0 i1
  unfold sm_F0
  rw [e1 i i1, e2 i i1, e3 i i1, e4 i i1, e5 i i1, e6 i i1, e7 i i1, e8 i i1]
  have d := ht i i0 i1
  refine ⟨a1, a2, fun j j0 j1 => ?_, sm_SK_F (sm_SK_m a4 hn hs f) e11 e12 (by omega) (by omega), a5, a6, sm_LK_m a7 hn g, sm_VO_m a8 hn hs f, ?_⟩
  · rw [e9 (40 * i + j) (by omega), e10 (40 * i + j) (by omega)]
    exact a3 j j0 j1
  · rcases a9 with q | q
    · exact Or.inl q
    · refine Or.inr ⟨q.1, by omega, ?_⟩
      rw [f _ q.2.1]; exact q.2.2
theorem sm_FL_dp {ff fs fts ft fp fh fn ftr tpl thh ss sv op a b fo Ht Tr Td Ls ar gs so : Int → Int} {n nf ns' si nb ns T : Int} (w : sm_FL ff fs fts ft fp fh fn ftr tpl thh ss sv a fo Ht Tr Td Ls op gs so n nf nb ns T) (h : sm_CT op a b fo Ht Tr Td Ls ar n nf ns' si) : ∀ i : Int, 0 ≤ i → i < T → sm_dp Td (Tr (fp i)) ≤ 40 := fun i i0 i1 => by
  have q := (w i i0 i1).1
  have c := sm_ct_0 h (fp i) q.2.2.1 q.2.2.2.1
  rw [← sm_dp_k h (fp i) q.2.2.1 q.2.2.2.1]
  omega
theorem sm_FL_in {ff fs fts ft fp fh fn ftr tpl thh ss sv a fo Ht Tr Td Ls op gs so : Int → Int} {n nf nb ns T T' : Int} (w : sm_FL ff fs fts ft fp fh fn ftr tpl thh ss sv a fo Ht Tr Td Ls op gs so n nf nb ns T) (q : sm_F0 ff fs fts ft fp fh fn ftr tpl thh ss sv a fo Ht Tr Td Ls op gs so n nf nb ns T) (h : T' = T + 1) : sm_FL ff fs fts ft fp fh fn ftr tpl thh ss sv a fo Ht Tr Td Ls op gs so n nf nb ns T' := fun i i0 i1 => by
  by_cases z : i = T
  · rw [z]; exact q
  · exact w i i0 (by omega)
theorem sm_FL_at {ff fs fts ft fp fh fn ftr tpl thh ss sv a fo Ht Tr Td Ls op gs so : Int → Int} {n nf nb ns T : Int} (w : sm_FL ff fs fts ft fp fh fn ftr tpl thh ss sv a fo Ht Tr Td Ls op gs so n nf nb ns T) (i : Int) (i0 : 0 ≤ i) (i1 : i < T) : (0 ≤ ff i ∧ ff i < nf ∧ 0 ≤ fp i ∧ fp i < n ∧ fo (fp i) = ff i ∧ fh i = Ht (fp i) - 1 ∧ 0 ≤ fh i ∧ fh i ≤ 396) ∧ (ftr i = sm_dp Td (Tr (fp i))) ∧ sm_TC tpl thh a Ht Tr Td (40 * i) (Tr (fp i)) ∧ sm_SK ss sv so Ht Ls nb ns (400 * i) (fh i) (Ls (fp i)) ∧
  (0 ≤ Ls (fp i) → op (Ls (fp i)) = 29 ∧ Ht (Ls (fp i)) ≤ fh i) ∧ (0 ≤ Tr (fp i) → op (Tr (fp i)) = 27 ∧ Ht (Tr (fp i)) ≤ fh i) ∧ sm_LK gs nb (fs i) (ff i) ∧ sm_VO so nb ns (fts i) (ft i) ∧ (fn i = -1 ∨ (0 ≤ fn i ∧ fn i < nb ∧ ¬ so (fn i) = 3)) := w i i0 i1
theorem sm_F1_ne {a b : Int → Int} {i n : Int} (h : ∀ k : Int, ¬ k = i → b k = a k) (hn : n ≤ i) : sm_F1 a b n := fun k hk => h k (by omega)
theorem sm_LK_q {gs : Int → Int} {nb x h x' h' : Int} (w : sm_LK gs nb x h) (a : x' = x) (b : h' = h) : sm_LK gs nb x' h' := a ▸ b ▸ w

def q_gives (p1 : Int) (S : sv_S) : Option Value → sv_S → Prop := fun v S' => v = none ∧ sm_ok S' ∧ sv_mod [58, 63, 64, 57] S S' ∧ ((S' 1075 0) = 0 → (S' 1073 0) = 1 → 1 ≤ (S' 1092 0) ∧ (S' 1092 0) ≤ 24 ∧ 0 ≤ (S' 57 ((S' 1092 0) - 1)) ∧ (S' 57 ((S' 1092 0) - 1)) < (S' 1046 0) ∧ (S' 29 (S' 57 ((S' 1092 0) - 1))) = (S' 53 ((S' 1092 0) - 1)) ∧ 0 ≤ (S' 53 ((S' 1092 0) - 1)) ∧ (S' 53 ((S' 1092 0) - 1)) < (S' 1032 0) ∧ (S' 60 ((S' 1092 0) - 1)) = sm_dp (S' 1100024) (S' 1100023 (S' 57 ((S' 1092 0) - 1))) ∧ sm_TC (S' 61) (S' 62) (S' 27) (S' 1100007) (S' 1100023) (S' 1100024) (40 * ((S' 1092 0) - 1)) (S' 1100023 (S' 57 ((S' 1092 0) - 1))) ∧ sm_LK (S' 1100029) (S' 1076 0) (S' 54 ((S' 1092 0) - 1)) (S' 53 ((S' 1092 0) - 1)) ∧ sm_VO (S' 44) (S' 1076 0) (S' 1007 0) ((S' 55 ((S' 1092 0) - 1))) ((S' 56 ((S' 1092 0) - 1))) ∧ ((S' 59 ((S' 1092 0) - 1)) = -1 ∨ (0 ≤ (S' 59 ((S' 1092 0) - 1)) ∧ (S' 59 ((S' 1092 0) - 1)) < (S' 1076 0) ∧ ¬ (S' 44 (S' 59 ((S' 1092 0) - 1))) = 3)) ∧ sm_FL (S' 53) (S' 54) (S' 55) (S' 56) (S' 57) (S' 58) (S' 59) (S' 60) (S' 61) (S' 62) (S' 63) (S' 64) (S' 27) (S' 29) (S' 1100007) (S' 1100023) (S' 1100024) (S' 1100025) (S' 26) (S' 1100029) (S' 44) (S' 1046 0) (S' 1032 0) (S' 1076 0) (S' 1007 0) (((S' 1092 0) - 1)) ∧ (S' 58 ((S' 1092 0) - 1)) = (S' 1100007 (S' 57 ((S' 1092 0) - 1))) ∧ sm_SK (S' 63) (S' 64) (S' 44) (S' 1100007) (S' 1100025) (S' 1076 0) (S' 1007 0) (400 * ((S' 1092 0) - 1)) ((S' 58 ((S' 1092 0) - 1))) ((S' 1100025 (S' 57 ((S' 1092 0) - 1)))))
theorem la_gives_0 {x0 : Int} (h0 : 0 ≤ x0) (h1 : ¬ x0 = 0) : 0 < x0 := by omega
theorem la_gives_1 {x0 : Int} (h0 : 0 < x0) (h1 : x0 = 0) : False := by omega
theorem la_gives_2 {x0 : Int} (h0 : 0 ≤ x0) (h1 : ¬ ¬ x0 = 0) : x0 = 0 := by omega
theorem la_gives_3 {x0 x1 x2 : Int} (h0 : 1 ≤ x0) (h1 : x0 ≤ 24) (h2 : 0 ≤ x1) (h3 : x1 ≤ 400) (h4 : 0 ≤ x2) (h5 : x2 ≤ x1) : 1 ≤ x0 ∧ x0 ≤ 24 ∧ 0 ≤ x1 ∧ x1 ≤ 400 ∧ 0 ≤ x2 ∧ x2 ≤ x1 := by omega
theorem la_gives_4 {x0 x1 x2 x3 : Int} (h0 : 1 ≤ x0) (h1 : x0 ≤ 24) (h2 : x1 ≤ x2) (h3 : x2 - x1 ≤ 399) (h4 : x3 = x2 - x1) : 1 ≤ x0 ∧ x0 ≤ 24 ∧ 0 ≤ x3 ∧ x3 ≤ 400 ∧ x3 < 400 := by omega
theorem la_gives_5 {x0 x1 x2 x3 : Int} (h0 : x0 ≤ 600) (h1 : 1 ≤ x1) (h2 : x1 ≤ 24) (h3 : 0 ≤ x2) (h4 : x3 = x2) (h5 : x2 + 1 < x0) : 1 ≤ x1 ∧ x1 ≤ 24 ∧ 0 ≤ x3 ∧ x3 ≤ 600 := by omega
theorem la_gives_6 {x0 x1 x2 : Int} (h0 : 0 ≤ x0) (h1 : x1 = x0) (h2 : x2 = x1 + 1) : 0 ≤ x2 := by omega
theorem la_gives_7 {x0 x1 x2 x3 : Int} (h0 : x0 = x1) (h1 : x1 + 1 < x2) (h2 : x3 = x0 + 1) : x3 < x2 := by omega
theorem la_gives_8 {x0 : Int} : ¬ ¬ x0 - 1 = x0 - 1 := by omega
theorem la_gives_9 {x0 x1 : Int} : ¬ ¬ 400 * (x0 - 1) + x1 = 400 * (x0 - 1) + x1 := by omega
theorem la_gives_10 {x0 x1 x2 : Int} (h0 : x0 = x1) (h1 : x2 = x0 + 1) : x2 = x1 + 1 := by omega
theorem la_gives_11 {x0 x1 x2 x3 : Int} (h0 : x0 = x1) (h1 : x2 = x0) (h2 : x3 = x2) : x3 = x1 := by omega
theorem la_gives_12 {x0 x1 x2 : Int} (h0 : x0 = x1) (h1 : x2 = x0) : x2 = x1 := by omega
theorem la_gives_13 {x0 x1 x2 : Int} (h0 : x0 = x1) (h1 : x2 = x1) : x0 = x2 := by omega
theorem la_gives_14 {x0 x1 x2 : Int} (h0 : x0 = x1) (h1 : x2 = x0) : x1 = x2 := by omega
theorem la_gives_15 {x0 x1 x2 x3 : Int} (h0 : x0 ≤ x1) (h1 : x2 = x1 - x0) : 400 * (x3 - 1) ≤ 400 * (x3 - 1) + x2 := by omega
theorem la_gives_16 {x0 x1 x2 x3 x4 x5 : Int} (h0 : x0 = x1 - x2 + 1) (h1 : x3 = x1 - x2) (h2 : x4 = x3 + 1) (h3 : x5 = x0) : x4 = x5 := by omega
theorem la_gives_17 {x0 : Int} : x0 ≤ x0 := by omega
theorem la_gives_18 {x0 x1 x2 x3 : Int} (h0 : 0 ≤ x0) (h1 : x1 = x2 - x0) (h2 : x3 = x1 + 1) : x3 - 1 ≤ x2 := by omega
theorem la_gives_19 {x0 x1 x2 : Int} (h0 : x0 = x1 + 1) : 400 * (x2 - 1) + (x0 - 1) ≤ 400 * (x2 - 1) + x1 := by omega
theorem la_gives_20 {x0 x1 x2 : Int} (h0 : x0 = x1 + 1) : 400 * (x2 - 1) + (x0 - 1) = 400 * (x2 - 1) + x1 := by omega
theorem la_gives_21 {x0 x1 x2 x3 x4 x5 x6 : Int} (h0 : 0 ≤ x0 → x1 = 29) (h1 : 0 ≤ x0 → x2 ≤ x3 - x4) (h2 : x5 = x3 - x4) (h3 : x6 = x5 + 1) : 0 ≤ x0 → x1 = 29 ∧ x2 ≤ x6 - 1 := by omega
theorem la_gives_22 {x0 : Int} : x0 = x0 - 1 + 1 := by omega
theorem la_gives_23 {x0 : Int} (h0 : x0 = 1) : x0 ≤ 1 := by omega
theorem la_gives_24 {x0 : Int} (h0 : x0 ≤ 1) (h1 : ¬ x0 = 1) : x0 < 1 := by omega
theorem la_gives_25 {x0 : Int} (h0 : x0 = 1) (h1 : x0 < 1) : False := by omega
set_option maxHeartbeats 2000000 in
theorem f_gives : ∀ (p1 : Int) (S : sv_S), sm_ok S → sv_R p1 → ((S 1075 0) = 0 → (S 1073 0) = 1 → sm_PL (S 1100020) (S 51) (S 52) (S 46) (S 47) (S 1076 0) (S 1086 0) ∧ sm_FR (S 1100020) (S 52) (S 1100021) (S 1100022) (3000 - (S 1084 0)) (S 1085 0) ∧ sm_PV (S 1100020) (S 48) (S 49) (S 50) (S 44) (S 1076 0) (S 1007 0) ∧ sm_AL (S 1100020) (S 48) (S 49) (S 50) (S 44) (S 1076 0) (S 1100032 0) ∧ sm_SV (S 1100020) (S 48) (S 1100029) (S 32) (S 33) (S 1076 0) (S 1032 0) ∧ 0 ≤ (S 1076 0) ∧ (S 1076 0) ≤ 300 ∧ 0 ≤ (S 1084 0) ∧ (S 1084 0) ≤ 3000 ∧ 0 ≤ (S 1086 0) ∧ sm_SC (S 1100029) (S 44) (S 45) (S 43) (S 21) (S 1076 0) (S 1032 0) ∧ sm_PO (S 42) (S 1076 0) ∧ (S 1100032 0) = -1 ∧ 2 ≤ (S 1076 0) ∧ 31 ≤ (S 1007 0) ∧ (S 1007 0) ≤ 400 ∧ sm_LN (S 4) 400 ∧ sm_CT (S 26) (S 27) (S 28) (S 29) (S 1100007) (S 1100023) (S 1100024) (S 1100025) (S 21) (S 1046 0) (S 1032 0) (S 1008 0) (S 1055 0) ∧ sm_LS (S 26) (S 1100007) (S 1100025) (S 1046 0) ∧ sm_CL (S 1100007) (S 1100023) (S 1100025) (S 1046 0) ∧ 1 ≤ (S 1032 0) ∧ (S 1032 0) ≤ 11 ∧ 0 ≤ (S 1046 0) ∧ (S 1046 0) ≤ 600 ∧ 31 ≤ (S 1008 0) ∧ (S 1008 0) ≤ (S 1007 0) ∧ 0 ≤ (S 1055 0) ∧ (S 1055 0) ≤ 19 ∧ 1 ≤ (S 1092 0) ∧ (S 1092 0) ≤ 24 ∧ 0 ≤ (S 1100033 0) ∧ (S 1100033 0) < (S 1046 0) ∧ (S 29 (S 1100033 0)) = (S 53 ((S 1092 0) - 1)) ∧ 0 ≤ (S 53 ((S 1092 0) - 1)) ∧ (S 53 ((S 1092 0) - 1)) < (S 1032 0) ∧ (S 60 ((S 1092 0) - 1)) = sm_dp (S 1100024) (S 1100023 (S 1100033 0)) ∧ sm_TC (S 61) (S 62) (S 27) (S 1100007) (S 1100023) (S 1100024) (40 * ((S 1092 0) - 1)) (S 1100023 (S 1100033 0)) ∧ sm_LK (S 1100029) (S 1076 0) (S 54 ((S 1092 0) - 1)) (S 53 ((S 1092 0) - 1)) ∧ sm_VO (S 44) (S 1076 0) (S 1007 0) ((S 55 ((S 1092 0) - 1))) ((S 56 ((S 1092 0) - 1))) ∧ ((S 59 ((S 1092 0) - 1)) = -1 ∨ (0 ≤ (S 59 ((S 1092 0) - 1)) ∧ (S 59 ((S 1092 0) - 1)) < (S 1076 0) ∧ ¬ (S 44 (S 59 ((S 1092 0) - 1))) = 3)) ∧ sm_FL (S 53) (S 54) (S 55) (S 56) (S 57) (S 58) (S 59) (S 60) (S 61) (S 62) (S 63) (S 64) (S 27) (S 29) (S 1100007) (S 1100023) (S 1100024) (S 1100025) (S 26) (S 1100029) (S 44) (S 1046 0) (S 1032 0) (S 1076 0) (S 1007 0) (((S 1092 0) - 1)) ∧ (S 57 ((S 1092 0) - 1)) = (S 1100033 0) ∧ 0 ≤ (S 58 ((S 1092 0) - 1)) ∧ (S 58 ((S 1092 0) - 1)) ≤ 400 ∧ sm_SK (S 63) (S 64) (S 44) (S 1100007) (S 1100025) (S 1076 0) (S 1007 0) (400 * ((S 1092 0) - 1)) ((S 58 ((S 1092 0) - 1))) ((S 1100034 0)) ∧ -1 ≤ (S 1100034 0) ∧ (S 1100034 0) < (S 1046 0) ∧ (0 ≤ (S 1100034 0) → (S 26 (S 1100034 0)) = 29) ∧ 0 ≤ p1 ∧ p1 ≤ (S 58 ((S 1092 0) - 1)) ∧ (S 58 ((S 1092 0) - 1)) - p1 ≤ 399 ∧ sm_VO (S 44) (S 1076 0) (S 1007 0) ((S 1111 0)) ((S 1112 0)) ∧ (0 ≤ (S 1100034 0) → (S 1100007 (S 1100034 0)) ≤ (S 58 ((S 1092 0) - 1)) - p1) ∧ (S 1100033 0) + 1 < (S 1046 0) ∧ (S 29 ((S 1100033 0) + 1)) = (S 29 (S 1100033 0)) ∧ (S 1100007 ((S 1100033 0) + 1)) = (S 58 ((S 1092 0) - 1)) - p1 + 1 ∧ (S 1100023 ((S 1100033 0) + 1)) = (S 1100023 (S 1100033 0)) ∧ (S 1100025 ((S 1100033 0) + 1)) = (S 1100034 0)) → ((0 ≤ (S 1075 0) ∧ (S 1075 0) ≤ 1) → (((¬ (S 1075 0) = (0 : Int)) → ((S 1075 0) = 0 → (S 1073 0) = 1 → 1 ≤ (S 1092 0) ∧ (S 1092 0) ≤ 24 ∧ 0 ≤ (S 57 ((S 1092 0) - 1)) ∧ (S 57 ((S 1092 0) - 1)) < (S 1046 0) ∧ (S 29 (S 57 ((S 1092 0) - 1))) = (S 53 ((S 1092 0) - 1)) ∧ 0 ≤ (S 53 ((S 1092 0) - 1)) ∧ (S 53 ((S 1092 0) - 1)) < (S 1032 0) ∧ (S 60 ((S 1092 0) - 1)) = sm_dp (S 1100024) (S 1100023 (S 57 ((S 1092 0) - 1))) ∧ sm_TC (S 61) (S 62) (S 27) (S 1100007) (S 1100023) (S 1100024) (40 * ((S 1092 0) - 1)) (S 1100023 (S 57 ((S 1092 0) - 1))) ∧ sm_LK (S 1100029) (S 1076 0) (S 54 ((S 1092 0) - 1)) (S 53 ((S 1092 0) - 1)) ∧ sm_VO (S 44) (S 1076 0) (S 1007 0) ((S 55 ((S 1092 0) - 1))) ((S 56 ((S 1092 0) - 1))) ∧ ((S 59 ((S 1092 0) - 1)) = -1 ∨ (0 ≤ (S 59 ((S 1092 0) - 1)) ∧ (S 59 ((S 1092 0) - 1)) < (S 1076 0) ∧ ¬ (S 44 (S 59 ((S 1092 0) - 1))) = 3)) ∧ sm_FL (S 53) (S 54) (S 55) (S 56) (S 57) (S 58) (S 59) (S 60) (S 61) (S 62) (S 63) (S 64) (S 27) (S 29) (S 1100007) (S 1100023) (S 1100024) (S 1100025) (S 26) (S 1100029) (S 44) (S 1046 0) (S 1032 0) (S 1076 0) (S 1007 0) (((S 1092 0) - 1)) ∧ (S 58 ((S 1092 0) - 1)) = (S 1100007 (S 57 ((S 1092 0) - 1))) ∧ sm_SK (S 63) (S 64) (S 44) (S 1100007) (S 1100025) (S 1076 0) (S 1007 0) (400 * ((S 1092 0) - 1)) ((S 58 ((S 1092 0) - 1))) ((S 1100025 (S 57 ((S 1092 0) - 1)))))) ∧ ((¬ (¬ (S 1075 0) = (0 : Int))) → (sv_R (S 1073 0) → ((((S 1073 0) = (1 : Int)) → (1 ≤ (S 1092 0) ∧ (S 1092 0) ≤ 24 ∧ 0 ≤ (S 58 ((S 1092 0) - 1)) ∧ (S 58 ((S 1092 0) - 1)) ≤ 400 ∧ 0 ≤ p1 ∧ p1 ≤ (S 58 ((S 1092 0) - 1))) ∧ (∀ g4 : sv_S, ((g4 58 ((S 1092 0) - 1)) = (S 58 ((S 1092 0) - 1)) - p1 ∧ (∀ k : Int, ¬ k = (S 1092 0) - 1 → (g4 58 k) = (S 58 k))) → (sv_R (S 1111 0) → (sv_R (S 1112 0) → (1 ≤ (S 1092 0) ∧ (S 1092 0) ≤ 24 ∧ 0 ≤ (g4 58 ((S 1092 0) - 1)) ∧ (g4 58 ((S 1092 0) - 1)) ≤ 400 ∧ (g4 58 ((S 1092 0) - 1)) < 400) ∧ (∀ g12 : sv_S, ((g12 58 ((S 1092 0) - 1)) = (g4 58 ((S 1092 0) - 1)) + 1 ∧ (g12 63 (400 * ((S 1092 0) - 1) + (g4 58 ((S 1092 0) - 1)))) = (S 1111 0) ∧ (g12 64 (400 * ((S 1092 0) - 1) + (g4 58 ((S 1092 0) - 1)))) = (S 1112 0) ∧ (∀ k : Int, ¬ k = (S 1092 0) - 1 → (g12 58 k) = (g4 58 k)) ∧ (∀ k : Int, ¬ k = (400 * ((S 1092 0) - 1) + (g4 58 ((S 1092 0) - 1))) → (g12 63 k) = (S 63 k)) ∧ (∀ k : Int, ¬ k = (400 * ((S 1092 0) - 1) + (g4 58 ((S 1092 0) - 1))) → (g12 64 k) = (S 64 k))) → (1 ≤ (S 1092 0) ∧ (S 1092 0) ≤ 24 ∧ 0 ≤ (S 57 ((S 1092 0) - 1)) ∧ (S 57 ((S 1092 0) - 1)) ≤ 600) ∧ (∀ g18 : sv_S, ((g18 57 ((S 1092 0) - 1)) = (S 57 ((S 1092 0) - 1)) + 1 ∧ (∀ k : Int, ¬ k = (S 1092 0) - 1 → (g18 57 k) = (S 57 k))) → ((S 1075 0) = 0 → (S 1073 0) = 1 → 1 ≤ (S 1092 0) ∧ (S 1092 0) ≤ 24 ∧ 0 ≤ (g18 57 ((S 1092 0) - 1)) ∧ (g18 57 ((S 1092 0) - 1)) < (S 1046 0) ∧ (S 29 (g18 57 ((S 1092 0) - 1))) = (S 53 ((S 1092 0) - 1)) ∧ 0 ≤ (S 53 ((S 1092 0) - 1)) ∧ (S 53 ((S 1092 0) - 1)) < (S 1032 0) ∧ (S 60 ((S 1092 0) - 1)) = sm_dp (S 1100024) (S 1100023 (g18 57 ((S 1092 0) - 1))) ∧ sm_TC (S 61) (S 62) (S 27) (S 1100007) (S 1100023) (S 1100024) (40 * ((S 1092 0) - 1)) (S 1100023 (g18 57 ((S 1092 0) - 1))) ∧ sm_LK (S 1100029) (S 1076 0) (S 54 ((S 1092 0) - 1)) (S 53 ((S 1092 0) - 1)) ∧ sm_VO (S 44) (S 1076 0) (S 1007 0) ((S 55 ((S 1092 0) - 1))) ((S 56 ((S 1092 0) - 1))) ∧ ((S 59 ((S 1092 0) - 1)) = -1 ∨ (0 ≤ (S 59 ((S 1092 0) - 1)) ∧ (S 59 ((S 1092 0) - 1)) < (S 1076 0) ∧ ¬ (S 44 (S 59 ((S 1092 0) - 1))) = 3)) ∧ sm_FL (S 53) (S 54) (S 55) (S 56) (g18 57) (g12 58) (S 59) (S 60) (S 61) (S 62) (g12 63) (g12 64) (S 27) (S 29) (S 1100007) (S 1100023) (S 1100024) (S 1100025) (S 26) (S 1100029) (S 44) (S 1046 0) (S 1032 0) (S 1076 0) (S 1007 0) (((S 1092 0) - 1)) ∧ (g12 58 ((S 1092 0) - 1)) = (S 1100007 (g18 57 ((S 1092 0) - 1))) ∧ sm_SK (g12 63) (g12 64) (S 44) (S 1100007) (S 1100025) (S 1076 0) (S 1007 0) (400 * ((S 1092 0) - 1)) ((g12 58 ((S 1092 0) - 1))) ((S 1100025 (g18 57 ((S 1092 0) - 1))))))))))) ∧ ((¬ ((S 1073 0) = (1 : Int))) → ((S 1075 0) = 0 → (S 1073 0) = 1 → 1 ≤ (S 1092 0) ∧ (S 1092 0) ≤ 24 ∧ 0 ≤ (S 57 ((S 1092 0) - 1)) ∧ (S 57 ((S 1092 0) - 1)) < (S 1046 0) ∧ (S 29 (S 57 ((S 1092 0) - 1))) = (S 53 ((S 1092 0) - 1)) ∧ 0 ≤ (S 53 ((S 1092 0) - 1)) ∧ (S 53 ((S 1092 0) - 1)) < (S 1032 0) ∧ (S 60 ((S 1092 0) - 1)) = sm_dp (S 1100024) (S 1100023 (S 57 ((S 1092 0) - 1))) ∧ sm_TC (S 61) (S 62) (S 27) (S 1100007) (S 1100023) (S 1100024) (40 * ((S 1092 0) - 1)) (S 1100023 (S 57 ((S 1092 0) - 1))) ∧ sm_LK (S 1100029) (S 1076 0) (S 54 ((S 1092 0) - 1)) (S 53 ((S 1092 0) - 1)) ∧ sm_VO (S 44) (S 1076 0) (S 1007 0) ((S 55 ((S 1092 0) - 1))) ((S 56 ((S 1092 0) - 1))) ∧ ((S 59 ((S 1092 0) - 1)) = -1 ∨ (0 ≤ (S 59 ((S 1092 0) - 1)) ∧ (S 59 ((S 1092 0) - 1)) < (S 1076 0) ∧ ¬ (S 44 (S 59 ((S 1092 0) - 1))) = 3)) ∧ sm_FL (S 53) (S 54) (S 55) (S 56) (S 57) (S 58) (S 59) (S 60) (S 61) (S 62) (S 63) (S 64) (S 27) (S 29) (S 1100007) (S 1100023) (S 1100024) (S 1100025) (S 26) (S 1100029) (S 44) (S 1046 0) (S 1032 0) (S 1076 0) (S 1007 0) (((S 1092 0) - 1)) ∧ (S 58 ((S 1092 0) - 1)) = (S 1100007 (S 57 ((S 1092 0) - 1))) ∧ sm_SK (S 63) (S 64) (S 44) (S 1100007) (S 1100025) (S 1076 0) (S 1007 0) (400 * ((S 1092 0) - 1)) ((S 58 ((S 1092 0) - 1))) ((S 1100025 (S 57 ((S 1092 0) - 1))))))))))) := by
  intro p1
  intro S
  intro h1_
  intro h2_
  intro h3_
  rintro ⟨h4_, h5_⟩
  refine ⟨?_, ?_⟩
  · skip
    intro h6_
    intro h7_
    intro h8_
    refine ⟨?_, ?_⟩
    · skip
      exact ((la_gives_1 (la_gives_0 h4_ h6_) h7_)).elim
    refine ⟨?_, ?_⟩
    · skip
      exact ((la_gives_1 (la_gives_0 h4_ h6_) h7_)).elim
    refine ⟨?_, ?_⟩
    · skip
      exact ((la_gives_1 (la_gives_0 h4_ h6_) h7_)).elim
    refine ⟨?_, ?_⟩
    · skip
      exact ((la_gives_1 (la_gives_0 h4_ h6_) h7_)).elim
    refine ⟨?_, ?_⟩
    · skip
      exact ((la_gives_1 (la_gives_0 h4_ h6_) h7_)).elim
    refine ⟨?_, ?_⟩
    · skip
      exact ((la_gives_1 (la_gives_0 h4_ h6_) h7_)).elim
    refine ⟨?_, ?_⟩
    · skip
      exact ((la_gives_1 (la_gives_0 h4_ h6_) h7_)).elim
    refine ⟨?_, ?_⟩
    · skip
      exact ((la_gives_1 (la_gives_0 h4_ h6_) h7_)).elim
    refine ⟨?_, ?_⟩
    · skip
      exact ((la_gives_1 (la_gives_0 h4_ h6_) h7_)).elim
    refine ⟨?_, ?_⟩
    · skip
      exact ((la_gives_1 (la_gives_0 h4_ h6_) h7_)).elim
    refine ⟨?_, ?_⟩
    · skip
      exact ((la_gives_1 (la_gives_0 h4_ h6_) h7_)).elim
    refine ⟨?_, ?_⟩
    · skip
      exact ((la_gives_1 (la_gives_0 h4_ h6_) h7_)).elim
    refine ⟨?_, ?_⟩
    · skip
      exact ((la_gives_1 (la_gives_0 h4_ h6_) h7_)).elim
    refine ⟨?_, ?_⟩
    · skip
      exact ((la_gives_1 (la_gives_0 h4_ h6_) h7_)).elim
    exact ((la_gives_1 (la_gives_0 h4_ h6_) h7_)).elim
  intro h9_
  have h10_ := (h3_ (la_gives_2 h4_ h9_))
  intro h11_
  refine ⟨?_, ?_⟩
  · skip
    intro h12_
    obtain ⟨h13_, ⟨h14_, ⟨h15_, ⟨h16_, ⟨h17_, ⟨h18_, ⟨h19_, ⟨h20_, ⟨h21_, ⟨h22_, ⟨h23_, ⟨h24_, ⟨h25_, ⟨h26_, ⟨h27_, ⟨h28_, ⟨h29_, ⟨h30_, ⟨h31_, ⟨h32_, ⟨h33_, ⟨h34_, ⟨h35_, ⟨h36_, ⟨h37_, ⟨h38_, ⟨h39_, ⟨h40_, ⟨h41_, ⟨h42_, ⟨h43_, ⟨h44_, ⟨h45_, ⟨h46_, ⟨h47_, ⟨h48_, ⟨h49_, ⟨h50_, ⟨h51_, ⟨h52_, ⟨h53_, ⟨h54_, ⟨h55_, ⟨h56_, ⟨h57_, ⟨h58_, ⟨h59_, ⟨h60_, ⟨h61_, ⟨h62_, ⟨h63_, ⟨h64_, ⟨h65_, ⟨h66_, ⟨h67_, ⟨h68_, ⟨h69_, h70_⟩⟩⟩⟩⟩⟩⟩⟩⟩⟩⟩⟩⟩⟩⟩⟩⟩⟩⟩⟩⟩⟩⟩⟩⟩⟩⟩⟩⟩⟩⟩⟩⟩⟩⟩⟩⟩⟩⟩⟩⟩⟩⟩⟩⟩⟩⟩⟩⟩⟩⟩⟩⟩⟩⟩⟩⟩ := (h10_ h12_)
    refine ⟨(la_gives_3 h41_ h42_ h55_ h56_ h61_ h62_), ?_⟩
    intro g4
    rintro ⟨h71_, h72_⟩
    intro h73_
    intro h74_
    refine ⟨(la_gives_4 h41_ h42_ h62_ h63_ h71_), ?_⟩
    intro g12
    rintro ⟨h75_, ⟨h76_, ⟨h77_, ⟨h78_, ⟨h79_, h80_⟩⟩⟩⟩⟩
    refine ⟨(la_gives_5 h36_ h41_ h42_ h43_ h54_ h66_), ?_⟩
    intro g18
    rintro ⟨h81_, h82_⟩
    intro h83_
    intro h84_
    refine ⟨h41_, ?_⟩
    refine ⟨h42_, ?_⟩
    refine ⟨(la_gives_6 h43_ h54_ h81_), ?_⟩
    refine ⟨(la_gives_7 h54_ h66_ h81_), ?_⟩
    refine ⟨?_, ?_⟩
    · skip
      have h85_ := (h72_ (S 1092 0 - 1))
      have h86_ := (h78_ (S 1092 0 - 1))
      have h87_ := (h79_ (400 * (S 1092 0 - 1) + g4 58 (S 1092 0 - 1)))
      have h88_ := (h80_ (400 * (S 1092 0 - 1) + g4 58 (S 1092 0 - 1)))
      have h89_ := (h82_ (S 1092 0 - 1))
      have e90_ : S 29 (g18 57 (S 1092 0 - 1)) = S 29 (S 1100033 0 + 1) := congrArg ((S 29)) (la_gives_10 h54_ h81_)
      exact (la_gives_11 h45_ h67_ e90_)
    refine ⟨h46_, ?_⟩
    refine ⟨h47_, ?_⟩
    refine ⟨?_, ?_⟩
    · skip
      have h91_ := (h72_ (S 1092 0 - 1))
      have h92_ := (h78_ (S 1092 0 - 1))
      have h93_ := (h79_ (400 * (S 1092 0 - 1) + g4 58 (S 1092 0 - 1)))
      have h94_ := (h80_ (400 * (S 1092 0 - 1) + g4 58 (S 1092 0 - 1)))
      have h95_ := (h82_ (S 1092 0 - 1))
      have e96_ : S 1100023 (g18 57 (S 1092 0 - 1)) = S 1100023 (S 1100033 0 + 1) := congrArg ((S 1100023)) (la_gives_10 h54_ h81_)
      have e97_ : sm_dp (S 1100024) (S 1100023 (g18 57 (S 1092 0 - 1))) = sm_dp (S 1100024) (S 1100023 (S 1100033 0)) := congrArg ((sm_dp (S 1100024))) (la_gives_12 h69_ e96_)
      exact (la_gives_13 h48_ e97_)
    refine ⟨?_, ?_⟩
    · skip
      have h98_ := (h72_ (S 1092 0 - 1))
      have h99_ := (h78_ (S 1092 0 - 1))
      have h100_ := (h79_ (400 * (S 1092 0 - 1) + g4 58 (S 1092 0 - 1)))
      have h101_ := (h80_ (400 * (S 1092 0 - 1) + g4 58 (S 1092 0 - 1)))
      have h102_ := (h82_ (S 1092 0 - 1))
      have e103_ : S 1100023 (g18 57 (S 1092 0 - 1)) = S 1100023 (S 1100033 0 + 1) := congrArg ((S 1100023)) (la_gives_10 h54_ h81_)
      exact (sm_TC_t h49_ (la_gives_14 h69_ e103_))
    refine ⟨h50_, ?_⟩
    refine ⟨h51_, ?_⟩
    refine ⟨h52_, ?_⟩
    refine ⟨(sm_FL_F h53_ sm_F1_rf sm_F1_rf sm_F1_rf sm_F1_rf (sm_F1_le (sm_F1_ne h82_ (Int.le_refl _)) (Int.le_refl _)) (sm_F1_tr (sm_F1_le (sm_F1_ne h72_ (Int.le_refl _)) (Int.le_refl _)) (sm_F1_ne h78_ (Int.le_refl _)) (Int.le_refl _)) sm_F1_rf sm_F1_rf sm_F1_rf sm_F1_rf (sm_F1_le (sm_F1_ne h79_ (Int.le_refl _)) (la_gives_15 h62_ h71_)) (sm_F1_le (sm_F1_ne h80_ (Int.le_refl _)) (la_gives_15 h62_ h71_)) (Int.le_refl _) (Int.le_refl _) sm_F1_rf sm_F1_rf (sm_FL_dp h53_ h30_)), ?_⟩
    refine ⟨?_, ?_⟩
    · skip
      have h104_ := (h72_ (S 1092 0 - 1))
      have h105_ := (h78_ (S 1092 0 - 1))
      have h106_ := (h79_ (400 * (S 1092 0 - 1) + g4 58 (S 1092 0 - 1)))
      have h107_ := (h80_ (400 * (S 1092 0 - 1) + g4 58 (S 1092 0 - 1)))
      have h108_ := (h82_ (S 1092 0 - 1))
      have e109_ : S 1100007 (g18 57 (S 1092 0 - 1)) = S 1100007 (S 1100033 0 + 1) := congrArg ((S 1100007)) (la_gives_10 h54_ h81_)
      exact (la_gives_16 h68_ h71_ h75_ e109_)
    have h110_ := (h72_ (S 1092 0 - 1))
    have h111_ := (h78_ (S 1092 0 - 1))
    have h112_ := (h79_ (400 * (S 1092 0 - 1) + g4 58 (S 1092 0 - 1)))
    have h113_ := (h80_ (400 * (S 1092 0 - 1) + g4 58 (S 1092 0 - 1)))
    have h114_ := (h82_ (S 1092 0 - 1))
    have e115_ : S 1100025 (g18 57 (S 1092 0 - 1)) = S 1100025 (S 1100033 0 + 1) := congrArg ((S 1100025)) (la_gives_10 h54_ h81_)
    exact (sm_SK_q (sm_SK_q (sm_SK_push (sm_SK_F (sm_SK_pop h57_ (la_gives_18 h61_ h71_ h75_)) (sm_F1_le (sm_F1_ne h79_ (Int.le_refl _)) (la_gives_19 h75_)) (sm_F1_le (sm_F1_ne h80_ (Int.le_refl _)) (la_gives_19 h75_)) (Int.le_refl _) (Int.le_refl _)) h31_ h59_ (la_gives_21 h60_ h65_ h71_ h75_) rfl (sm_VO_eq h64_ ((congrArg (g12 63) (la_gives_20 h75_)).trans h76_) ((congrArg (g12 64) (la_gives_20 h75_)).trans h77_)) rfl) rfl la_gives_22 rfl) (la_gives_12 h70_ e115_) rfl rfl)
  intro h116_
  intro h117_
  intro h118_
  refine ⟨?_, ?_⟩
  · skip
    exact ((la_gives_25 h118_ (la_gives_24 (la_gives_23 h118_) h116_))).elim
  refine ⟨?_, ?_⟩
  · skip
    exact ((la_gives_25 h118_ (la_gives_24 (la_gives_23 h118_) h116_))).elim
  refine ⟨?_, ?_⟩
  · skip
    exact ((la_gives_25 h118_ (la_gives_24 (la_gives_23 h118_) h116_))).elim
  refine ⟨?_, ?_⟩
  · skip
    exact ((la_gives_25 h118_ (la_gives_24 (la_gives_23 h118_) h116_))).elim
  refine ⟨?_, ?_⟩
  · skip
    exact ((la_gives_25 h118_ (la_gives_24 (la_gives_23 h118_) h116_))).elim
  refine ⟨?_, ?_⟩
  · skip
    exact ((la_gives_25 h118_ (la_gives_24 (la_gives_23 h118_) h116_))).elim
  refine ⟨?_, ?_⟩
  · skip
    exact ((la_gives_25 h118_ (la_gives_24 (la_gives_23 h118_) h116_))).elim
  refine ⟨?_, ?_⟩
  · skip
    exact ((la_gives_25 h118_ (la_gives_24 (la_gives_23 h118_) h116_))).elim
  refine ⟨?_, ?_⟩
  · skip
    exact ((la_gives_25 h118_ (la_gives_24 (la_gives_23 h118_) h116_))).elim
  refine ⟨?_, ?_⟩
  · skip
    exact ((la_gives_25 h118_ (la_gives_24 (la_gives_23 h118_) h116_))).elim
  refine ⟨?_, ?_⟩
  · skip
    exact ((la_gives_25 h118_ (la_gives_24 (la_gives_23 h118_) h116_))).elim
  refine ⟨?_, ?_⟩
  · skip
    exact ((la_gives_25 h118_ (la_gives_24 (la_gives_23 h118_) h116_))).elim
  refine ⟨?_, ?_⟩
  · skip
    exact ((la_gives_25 h118_ (la_gives_24 (la_gives_23 h118_) h116_))).elim
  refine ⟨?_, ?_⟩
  · skip
    exact ((la_gives_25 h118_ (la_gives_24 (la_gives_23 h118_) h116_))).elim
  exact ((la_gives_25 h118_ (la_gives_24 (la_gives_23 h118_) h116_))).elim
set_option maxRecDepth 8000 in
set_option maxHeartbeats 2000000 in
theorem t_gives : ∀ (p1 : Int) (S : sv_S), sm_ok S → sv_R p1 → ((S 1075 0) = 0 → (S 1073 0) = 1 → sm_PL (S 1100020) (S 51) (S 52) (S 46) (S 47) (S 1076 0) (S 1086 0) ∧ sm_FR (S 1100020) (S 52) (S 1100021) (S 1100022) (3000 - (S 1084 0)) (S 1085 0) ∧ sm_PV (S 1100020) (S 48) (S 49) (S 50) (S 44) (S 1076 0) (S 1007 0) ∧ sm_AL (S 1100020) (S 48) (S 49) (S 50) (S 44) (S 1076 0) (S 1100032 0) ∧ sm_SV (S 1100020) (S 48) (S 1100029) (S 32) (S 33) (S 1076 0) (S 1032 0) ∧ 0 ≤ (S 1076 0) ∧ (S 1076 0) ≤ 300 ∧ 0 ≤ (S 1084 0) ∧ (S 1084 0) ≤ 3000 ∧ 0 ≤ (S 1086 0) ∧ sm_SC (S 1100029) (S 44) (S 45) (S 43) (S 21) (S 1076 0) (S 1032 0) ∧ sm_PO (S 42) (S 1076 0) ∧ (S 1100032 0) = -1 ∧ 2 ≤ (S 1076 0) ∧ 31 ≤ (S 1007 0) ∧ (S 1007 0) ≤ 400 ∧ sm_LN (S 4) 400 ∧ sm_CT (S 26) (S 27) (S 28) (S 29) (S 1100007) (S 1100023) (S 1100024) (S 1100025) (S 21) (S 1046 0) (S 1032 0) (S 1008 0) (S 1055 0) ∧ sm_LS (S 26) (S 1100007) (S 1100025) (S 1046 0) ∧ sm_CL (S 1100007) (S 1100023) (S 1100025) (S 1046 0) ∧ 1 ≤ (S 1032 0) ∧ (S 1032 0) ≤ 11 ∧ 0 ≤ (S 1046 0) ∧ (S 1046 0) ≤ 600 ∧ 31 ≤ (S 1008 0) ∧ (S 1008 0) ≤ (S 1007 0) ∧ 0 ≤ (S 1055 0) ∧ (S 1055 0) ≤ 19 ∧ 1 ≤ (S 1092 0) ∧ (S 1092 0) ≤ 24 ∧ 0 ≤ (S 1100033 0) ∧ (S 1100033 0) < (S 1046 0) ∧ (S 29 (S 1100033 0)) = (S 53 ((S 1092 0) - 1)) ∧ 0 ≤ (S 53 ((S 1092 0) - 1)) ∧ (S 53 ((S 1092 0) - 1)) < (S 1032 0) ∧ (S 60 ((S 1092 0) - 1)) = sm_dp (S 1100024) (S 1100023 (S 1100033 0)) ∧ sm_TC (S 61) (S 62) (S 27) (S 1100007) (S 1100023) (S 1100024) (40 * ((S 1092 0) - 1)) (S 1100023 (S 1100033 0)) ∧ sm_LK (S 1100029) (S 1076 0) (S 54 ((S 1092 0) - 1)) (S 53 ((S 1092 0) - 1)) ∧ sm_VO (S 44) (S 1076 0) (S 1007 0) ((S 55 ((S 1092 0) - 1))) ((S 56 ((S 1092 0) - 1))) ∧ ((S 59 ((S 1092 0) - 1)) = -1 ∨ (0 ≤ (S 59 ((S 1092 0) - 1)) ∧ (S 59 ((S 1092 0) - 1)) < (S 1076 0) ∧ ¬ (S 44 (S 59 ((S 1092 0) - 1))) = 3)) ∧ sm_FL (S 53) (S 54) (S 55) (S 56) (S 57) (S 58) (S 59) (S 60) (S 61) (S 62) (S 63) (S 64) (S 27) (S 29) (S 1100007) (S 1100023) (S 1100024) (S 1100025) (S 26) (S 1100029) (S 44) (S 1046 0) (S 1032 0) (S 1076 0) (S 1007 0) (((S 1092 0) - 1)) ∧ (S 57 ((S 1092 0) - 1)) = (S 1100033 0) ∧ 0 ≤ (S 58 ((S 1092 0) - 1)) ∧ (S 58 ((S 1092 0) - 1)) ≤ 400 ∧ sm_SK (S 63) (S 64) (S 44) (S 1100007) (S 1100025) (S 1076 0) (S 1007 0) (400 * ((S 1092 0) - 1)) ((S 58 ((S 1092 0) - 1))) ((S 1100034 0)) ∧ -1 ≤ (S 1100034 0) ∧ (S 1100034 0) < (S 1046 0) ∧ (0 ≤ (S 1100034 0) → (S 26 (S 1100034 0)) = 29) ∧ 0 ≤ p1 ∧ p1 ≤ (S 58 ((S 1092 0) - 1)) ∧ (S 58 ((S 1092 0) - 1)) - p1 ≤ 399 ∧ sm_VO (S 44) (S 1076 0) (S 1007 0) ((S 1111 0)) ((S 1112 0)) ∧ (0 ≤ (S 1100034 0) → (S 1100007 (S 1100034 0)) ≤ (S 58 ((S 1092 0) - 1)) - p1) ∧ (S 1100033 0) + 1 < (S 1046 0) ∧ (S 29 ((S 1100033 0) + 1)) = (S 29 (S 1100033 0)) ∧ (S 1100007 ((S 1100033 0) + 1)) = (S 58 ((S 1092 0) - 1)) - p1 + 1 ∧ (S 1100023 ((S 1100033 0) + 1)) = (S 1100023 (S 1100033 0)) ∧ (S 1100025 ((S 1100033 0) + 1)) = (S 1100034 0)) → sv_T sm_XS sm_cs sm_L sm_sh 2 (q_gives p1 S) 155 0 (lv_args 0 [.ref 0, sv_I p1]) [] S := by
  intro p1 S hok hp1 hpre
  have h := f_gives p1 S hok hp1 hpre
  have hM := sm_h155
  show sv_T sm_XS sm_cs sm_L sm_sh 2 (q_gives p1 S) 155 0 [(0, .ref 0), (1, sv_I p1)] [] S
  refine sv_aload_n hM dX12_gives_0 rfl rfl ?_
  have k1 : (0 ≤ (S 1075 0) ∧ (S 1075 0) ≤ 1) := sm_okZ hok sm_r1075 0
  have h := h k1
  refine sv_getI hM dX12_gives_1 sm_fl_794 (sm_a0 _) sm_k75 rfl (x := (S 1075 0)) rfl ?_
  refine sv_cond_ne hM dX12_gives_4 (sv_R01 k1) (t := 15) rfl rfl (fun hc => ?_) (fun hc => ?_)
  · have h := h.1 (hc)
    exact sv_vret hM dX12_gives_15 rfl ⟨rfl, hok, sv_mod.rf, h⟩
  · have h := h.2 (hc)
    refine sv_aload_n hM dX12_gives_7 rfl rfl ?_
    have k2 : sv_R (S 1073 0) := sm_okI hok sm_r1073 0
    have h := h k2
    refine sv_getI hM dX12_gives_8 sm_fl_773 (sm_a0 _) sm_k73 rfl (x := (S 1073 0)) rfl ?_
    refine sv_iconst (d := (1 : Int)) hM dX12_gives_11 rfl rfl ?_
    refine sv_icmp_eq hM dX12_gives_12 k2 (⟨by decide, by decide⟩ : sv_R (1 : Int)) (t := 16) rfl rfl (fun hc => ?_) (fun hc => ?_)
    · have h := h.1 (hc)
      refine sv_aload_n hM dX12_gives_16 rfl rfl ?_
      refine sv_iload_n hM dX12_gives_17 rfl rfl ?_
      obtain ⟨o3, h⟩ := h
      refine sv_callV hM dX12_gives_18 sm_iv_882 (by decide) (sm_a0 _) rfl rfl (Nat.le_of_ble_eq_true rfl) sm_h153 (Nat.le_of_ble_eq_true rfl) (Nat.le_of_ble_eq_true rfl) (F' := 0) (Nat.le_of_ble_eq_true rfl) rfl (t_drop p1 S hok hp1 o3) (fun v S1 hq => ?_)
      obtain ⟨rfl, ok5, md6, hpo7⟩ := hq
      obtain ⟨g4, rfl⟩ : ∃ g, S1 = sv_sts S [58] g := ⟨_, md6.eq⟩
      show sv_T sm_XS sm_cs sm_L sm_sh 2 (q_gives p1 S) 155 21 [(0, .ref 0), (1, sv_I p1)] [] (sv_sts S [58] g4)
      have md8 : sv_mod [58, 63, 64, 57] S (sv_sts S [58] g4) := sv_mod.sts sv_mod.rf (by decide)
      have h := h g4 hpo7
      refine sv_aload_n hM dX12_gives_21 rfl rfl ?_
      refine sv_aload_n hM dX12_gives_22 rfl rfl ?_
      have k9 : sv_R (S 1111 0) := sm_okI ok5 sm_r1111 0
      have h := h k9
      refine sv_getI hM dX12_gives_23 sm_fl_788 (sm_a0 _) sm_k111 rfl (x := (S 1111 0)) rfl ?_
      refine sv_aload_n hM dX12_gives_26 rfl rfl ?_
      have k10 : sv_R (S 1112 0) := sm_okI ok5 sm_r1112 0
      have h := h k10
      refine sv_getI hM dX12_gives_27 sm_fl_791 (sm_a0 _) sm_k112 rfl (x := (S 1112 0)) rfl ?_
      obtain ⟨o11, h⟩ := h
      refine sv_callV hM dX12_gives_30 sm_iv_885 (by decide) (sm_a0 _) rfl rfl (Nat.le_of_ble_eq_true rfl) sm_h152 (Nat.le_of_ble_eq_true rfl) (Nat.le_of_ble_eq_true rfl) (F' := 1) (Nat.le_of_ble_eq_true rfl) rfl (t_push (S 1111 0) (S 1112 0) (sv_sts S [58] g4) ok5 k9 k10 o11) (fun v S1 hq => ?_)
      obtain ⟨rfl, ok13, md14, hpo15⟩ := hq
      obtain ⟨g12, rfl⟩ : ∃ g, S1 = sv_sts (sv_sts S [58] g4) [63, 64, 58] g := ⟨_, md14.eq⟩
      show sv_T sm_XS sm_cs sm_L sm_sh 2 (q_gives p1 S) 155 33 [(0, .ref 0), (1, sv_I p1)] [] (sv_sts (sv_sts S [58] g4) [63, 64, 58] g12)
      have md16 : sv_mod [58, 63, 64, 57] S (sv_sts (sv_sts S [58] g4) [63, 64, 58] g12) := sv_mod.sts md8 (by decide)
      have h := h g12 hpo15
      refine sv_aload_n hM dX12_gives_33 rfl rfl ?_
      obtain ⟨o17, h⟩ := h
      refine sv_callV hM dX12_gives_34 sm_iv_888 (by decide) (sm_a0 _) rfl rfl (Nat.le_of_ble_eq_true rfl) sm_h154 (Nat.le_of_ble_eq_true rfl) (Nat.le_of_ble_eq_true rfl) (F' := 0) (Nat.le_of_ble_eq_true rfl) rfl (t_goOn  (sv_sts (sv_sts S [58] g4) [63, 64, 58] g12) ok13 o17) (fun v S1 hq => ?_)
      obtain ⟨rfl, ok19, md20, hpo21⟩ := hq
      obtain ⟨g18, rfl⟩ : ∃ g, S1 = sv_sts (sv_sts (sv_sts S [58] g4) [63, 64, 58] g12) [57] g := ⟨_, md20.eq⟩
      show sv_T sm_XS sm_cs sm_L sm_sh 2 (q_gives p1 S) 155 37 [(0, .ref 0), (1, sv_I p1)] [] (sv_sts (sv_sts (sv_sts S [58] g4) [63, 64, 58] g12) [57] g18)
      have md22 : sv_mod [58, 63, 64, 57] S (sv_sts (sv_sts (sv_sts S [58] g4) [63, 64, 58] g12) [57] g18) := sv_mod.sts md16 (by decide)
      have h := h g18 hpo21
      exact sv_vret hM dX12_gives_37 rfl ⟨rfl, ok19, md22, h⟩
    · have h := h.2 (hc)
      exact sv_vret hM dX12_gives_15 rfl ⟨rfl, hok, sv_mod.rf, h⟩
