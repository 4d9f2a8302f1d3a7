theorem dX12_gives_0 : decode cX12_gives 0 = .ok (.aload_n 0, 1) := by decide +kernel
theorem dX12_gives_1 : decode cX12_gives 1 = .ok (.getfield 794, 3) := by decide +kernel
theorem dX12_gives_4 : decode cX12_gives 4 = .ok (.ifCond .ne 11, 3) := by decide +kernel
theorem dX12_gives_7 : decode cX12_gives 7 = .ok (.aload_n 0, 1) := by decide +kernel
theorem dX12_gives_8 : decode cX12_gives 8 = .ok (.getfield 773, 3) := by decide +kernel
theorem dX12_gives_11 : decode cX12_gives 11 = .ok (.iconst 1, 1) := by decide +kernel
theorem dX12_gives_12 : decode cX12_gives 12 = .ok (.if_icmp .eq 4, 3) := by decide +kernel
theorem dX12_gives_15 : decode cX12_gives 15 = .ok (.return_, 1) := by decide +kernel
theorem dX12_gives_16 : decode cX12_gives 16 = .ok (.aload_n 0, 1) := by decide +kernel
theorem dX12_gives_17 : decode cX12_gives 17 = .ok (.iload_n 1, 1) := by decide +kernel
theorem dX12_gives_18 : decode cX12_gives 18 = .ok (.invokevirtual 882, 3) := by decide +kernel
theorem dX12_gives_21 : decode cX12_gives 21 = .ok (.aload_n 0, 1) := by decide +kernel
theorem dX12_gives_22 : decode cX12_gives 22 = .ok (.aload_n 0, 1) := by decide +kernel
theorem dX12_gives_23 : decode cX12_gives 23 = .ok (.getfield 788, 3) := by decide +kernel
theorem dX12_gives_26 : decode cX12_gives 26 = .ok (.aload_n 0, 1) := by decide +kernel
theorem dX12_gives_27 : decode cX12_gives 27 = .ok (.getfield 791, 3) := by decide +kernel
theorem dX12_gives_30 : decode cX12_gives 30 = .ok (.invokevirtual 885, 3) := by decide +kernel
theorem dX12_gives_33 : decode cX12_gives 33 = .ok (.aload_n 0, 1) := by decide +kernel
theorem dX12_gives_34 : decode cX12_gives 34 = .ok (.invokevirtual 888, 3) := by decide +kernel
theorem dX12_gives_37 : decode cX12_gives 37 = .ok (.return_, 1) := by decide +kernel
theorem dX12_toss__0 : decode cX12_toss_ 0 = .ok (.aload_n 0, 1) := by decide +kernel
theorem dX12_toss__1 : decode cX12_toss_ 1 = .ok (.getfield 794, 3) := by decide +kernel
theorem dX12_toss__4 : decode cX12_toss_ 4 = .ok (.ifCond .eq 4, 3) := by decide +kernel
theorem dX12_toss__7 : decode cX12_toss_ 7 = .ok (.return_, 1) := by decide +kernel
theorem dX12_toss__8 : decode cX12_toss_ 8 = .ok (.aload_n 0, 1) := by decide +kernel
theorem dX12_toss__9 : decode cX12_toss_ 9 = .ok (.getfield 872, 3) := by decide +kernel
theorem dX12_toss__12 : decode cX12_toss_ 12 = .ok (.ifCond .le 30, 3) := by decide +kernel
theorem dX12_toss__15 : decode cX12_toss_ 15 = .ok (.aload_n 0, 1) := by decide +kernel
theorem dX12_toss__16 : decode cX12_toss_ 16 = .ok (.getfield 191, 3) := by decide +kernel
theorem dX12_toss__19 : decode cX12_toss_ 19 = .ok (.aload_n 0, 1) := by decide +kernel
theorem dX12_toss__20 : decode cX12_toss_ 20 = .ok (.getfield 872, 3) := by decide +kernel
theorem dX12_toss__23 : decode cX12_toss_ 23 = .ok (.iconst 1, 1) := by decide +kernel
theorem dX12_toss__24 : decode cX12_toss_ 24 = .ok (.isub, 1) := by decide +kernel
theorem dX12_toss__25 : decode cX12_toss_ 25 = .ok (.iaload, 1) := by decide +kernel
theorem dX12_toss__26 : decode cX12_toss_ 26 = .ok (.ifCond .ne 16, 3) := by decide +kernel
theorem dX12_toss__29 : decode cX12_toss_ 29 = .ok (.aload_n 0, 1) := by decide +kernel
theorem dX12_toss__30 : decode cX12_toss_ 30 = .ok (.dup, 1) := by decide +kernel
theorem dX12_toss__31 : decode cX12_toss_ 31 = .ok (.getfield 872, 3) := by decide +kernel
theorem dX12_toss__34 : decode cX12_toss_ 34 = .ok (.iconst 1, 1) := by decide +kernel
theorem dX12_toss__35 : decode cX12_toss_ 35 = .ok (.isub, 1) := by decide +kernel
theorem dX12_toss__36 : decode cX12_toss_ 36 = .ok (.putfield 872, 3) := by decide +kernel
theorem dX12_toss__39 : decode cX12_toss_ 39 = .ok (.goto (-31), 3) := by decide +kernel
theorem dX12_toss__42 : decode cX12_toss_ 42 = .ok (.aload_n 0, 1) := by decide +kernel
theorem dX12_toss__43 : decode cX12_toss_ 43 = .ok (.getfield 872, 3) := by decide +kernel
theorem dX12_toss__46 : decode cX12_toss_ 46 = .ok (.ifCond .ne 19, 3) := by decide +kernel
theorem dX12_toss__49 : decode cX12_toss_ 49 = .ok (.aload_n 0, 1) := by decide +kernel
theorem dX12_toss__50 : decode cX12_toss_ 50 = .ok (.iconst 3, 1) := by decide +kernel
theorem dX12_toss__51 : decode cX12_toss_ 51 = .ok (.putfield 773, 3) := by decide +kernel
theorem dX12_toss__54 : decode cX12_toss_ 54 = .ok (.aload_n 0, 1) := by decide +kernel
theorem dX12_toss__55 : decode cX12_toss_ 55 = .ok (.iload_n 1, 1) := by decide +kernel
theorem dX12_toss__56 : decode cX12_toss_ 56 = .ok (.putfield 891, 3) := by decide +kernel
theorem dX12_toss__59 : decode cX12_toss_ 59 = .ok (.aload_n 0, 1) := by decide +kernel
theorem dX12_toss__60 : decode cX12_toss_ 60 = .ok (.iload_n 2, 1) := by decide +kernel
theorem dX12_toss__61 : decode cX12_toss_ 61 = .ok (.putfield 894, 3) := by decide +kernel
theorem dX12_toss__64 : decode cX12_toss_ 64 = .ok (.return_, 1) := by decide +kernel
theorem dX12_toss__65 : decode cX12_toss_ 65 = .ok (.aload_n 0, 1) := by decide +kernel
theorem dX12_toss__66 : decode cX12_toss_ 66 = .ok (.getfield 872, 3) := by decide +kernel
theorem dX12_toss__69 : decode cX12_toss_ 69 = .ok (.iconst 1, 1) := by decide +kernel
theorem dX12_toss__70 : decode cX12_toss_ 70 = .ok (.isub, 1) := by decide +kernel
theorem dX12_toss__71 : decode cX12_toss_ 71 = .ok (.istore_n 3, 1) := by decide +kernel
theorem dX12_toss__72 : decode cX12_toss_ 72 = .ok (.aload_n 0, 1) := by decide +kernel
theorem dX12_toss__73 : decode cX12_toss_ 73 = .ok (.getfield 191, 3) := by decide +kernel
theorem dX12_toss__76 : decode cX12_toss_ 76 = .ok (.iload_n 3, 1) := by decide +kernel
theorem dX12_toss__77 : decode cX12_toss_ 77 = .ok (.dup2, 1) := by decide +kernel
theorem dX12_toss__78 : decode cX12_toss_ 78 = .ok (.iaload, 1) := by decide +kernel
theorem dX12_toss__79 : decode cX12_toss_ 79 = .ok (.iconst 1, 1) := by decide +kernel
theorem dX12_toss__80 : decode cX12_toss_ 80 = .ok (.isub, 1) := by decide +kernel
theorem dX12_toss__81 : decode cX12_toss_ 81 = .ok (.iastore, 1) := by decide +kernel
theorem dX12_toss__82 : decode cX12_toss_ 82 = .ok (.bipush 40, 2) := by decide +kernel
theorem dX12_toss__84 : decode cX12_toss_ 84 = .ok (.iload_n 3, 1) := by decide +kernel
theorem dX12_toss__85 : decode cX12_toss_ 85 = .ok (.imul, 1) := by decide +kernel
theorem dX12_toss__86 : decode cX12_toss_ 86 = .ok (.aload_n 0, 1) := by decide +kernel
theorem dX12_toss__87 : decode cX12_toss_ 87 = .ok (.getfield 191, 3) := by decide +kernel
theorem dX12_toss__90 : decode cX12_toss_ 90 = .ok (.iload_n 3, 1) := by decide +kernel
theorem dX12_toss__91 : decode cX12_toss_ 91 = .ok (.iaload, 1) := by decide +kernel
theorem dX12_toss__92 : decode cX12_toss_ 92 = .ok (.iadd, 1) := by decide +kernel
theorem dX12_toss__93 : decode cX12_toss_ 93 = .ok (.istore 4, 2) := by decide +kernel
theorem dX12_toss__95 : decode cX12_toss_ 95 = .ok (.aload_n 0, 1) := by decide +kernel
theorem dX12_toss__96 : decode cX12_toss_ 96 = .ok (.getfield 185, 3) := by decide +kernel
theorem dX12_toss__99 : decode cX12_toss_ 99 = .ok (.iload_n 3, 1) := by decide +kernel
theorem dX12_toss__100 : decode cX12_toss_ 100 = .ok (.aload_n 0, 1) := by decide +kernel
theorem dX12_toss__101 : decode cX12_toss_ 101 = .ok (.getfield 197, 3) := by decide +kernel
theorem dX12_toss__104 : decode cX12_toss_ 104 = .ok (.iload 4, 2) := by decide +kernel
theorem dX12_toss__106 : decode cX12_toss_ 106 = .ok (.iaload, 1) := by decide +kernel
theorem dX12_toss__107 : decode cX12_toss_ 107 = .ok (.iastore, 1) := by decide +kernel
theorem dX12_toss__108 : decode cX12_toss_ 108 = .ok (.aload_n 0, 1) := by decide +kernel
theorem dX12_toss__109 : decode cX12_toss_ 109 = .ok (.iload_n 1, 1) := by decide +kernel
theorem dX12_toss__110 : decode cX12_toss_ 110 = .ok (.iload_n 2, 1) := by decide +kernel
theorem dX12_toss__111 : decode cX12_toss_ 111 = .ok (.invokevirtual 885, 3) := by decide +kernel
theorem dX12_toss__114 : decode cX12_toss_ 114 = .ok (.aload_n 0, 1) := by decide +kernel
theorem dX12_toss__115 : decode cX12_toss_ 115 = .ok (.getfield 182, 3) := by decide +kernel
theorem dX12_toss__118 : decode cX12_toss_ 118 = .ok (.iload_n 3, 1) := by decide +kernel
theorem dX12_toss__119 : decode cX12_toss_ 119 = .ok (.aload_n 0, 1) := by decide +kernel
theorem dX12_toss__120 : decode cX12_toss_ 120 = .ok (.getfield 194, 3) := by decide +kernel
theorem dX12_toss__123 : decode cX12_toss_ 123 = .ok (.iload 4, 2) := by decide +kernel
theorem dX12_toss__125 : decode cX12_toss_ 125 = .ok (.iaload, 1) := by decide +kernel
theorem dX12_toss__126 : decode cX12_toss_ 126 = .ok (.iastore, 1) := by decide +kernel
theorem dX12_toss__127 : decode cX12_toss_ 127 = .ok (.return_, 1) := by decide +kernel
/-! THE MACHINE'S FRAMES. which slots hold a LIST: the chain of NAMES_OF that are open (il); SK a frame's stack up to h; FL all frames below T -/
def sm_il (Ht Ls : Int → Int) (q s : Int) : Int := if h : 0 ≤ q ∧ Ls q < q then (if s = Ht q - 1 then 1 else sm_il Ht Ls (Ls q) s) else 0
termination_by (q + 1).toNat
decreasing_by omega
theorem sm_il_n {Ht Ls : Int → Int} {q s : Int} (h : q < 0) : sm_il Ht Ls q s = 0 := by
  rw [sm_il.eq_def, dif_neg (by omega)]
theorem sm_il_y {Ht Ls : Int → Int} {q s : Int} (h : 0 ≤ q ∧ Ls q < q) (hs : s = Ht q - 1) : sm_il Ht Ls q s = 1 := by
  rw [sm_il.eq_def, dif_pos h, if_pos hs]
theorem sm_il_s {Ht Ls : Int → Int} {q s : Int} (h : 0 ≤ q ∧ Ls q < q) (hs : ¬ s = Ht q - 1) : sm_il Ht Ls q s = sm_il Ht Ls (Ls q) s := by
  rw [sm_il.eq_def, dif_pos h, if_neg hs]
/-- the lists lie one above the other -/
def sm_LH (Ht Ls : Int → Int) (n : Int) : Prop := ∀ q : Int, 0 ≤ q → q < n → -1 ≤ Ls q ∧ Ls q < q ∧ (0 ≤ Ls q → Ht (Ls q) ≤ Ht q)
/-- of NAMES_OF itself the outer list lies strictly below -/
def sm_LS (op Ht Ls : Int → Int) (n : Int) : Prop := ∀ q : Int, 0 ≤ q → q < n → op q = 29 → 1 ≤ Ht q ∧ (0 ≤ Ls q → op (Ls q) = 29 ∧ Ht (Ls q) ≤ Ht q - 1) ∧ -1 ≤ Ls q ∧ Ls q < q
theorem sm_LS_ct {op a b fo Ht Tr Td Ls ar : Int → Int} {n nf ns si : Int} (h : sm_CT op a b fo Ht Tr Td Ls ar n nf ns si) : sm_LS op Ht Ls n := fun q q0 q1 ho => by
  have c0 := sm_ct_0 h q q0 q1
  have c3 := sm_ct_3 h q q0 q1
  have c26 := sm_ct_26 h q q0 q1 ho
  have l := c26.1
  unfold sm_lo at l
  exact ⟨by omega, fun z => ⟨(c3 z).1, l.2.2 z⟩, by omega, by omega⟩
theorem sm_il_hi {op Ht Ls : Int → Int} {n : Int} (h : sm_LS op Ht Ls n) : ∀ (k : Nat) (q s : Int), (q + 1).toNat = k → q < n → (0 ≤ q → op q = 29 ∧ Ht q ≤ s) → sm_il Ht Ls q s = 0 := by
  intro k
  induction k using Nat.strongRecOn with
  | ind k ih =>
    intro q s hk hq hs
    by_cases h0 : q < 0
    · exact sm_il_n h0
    · have a := hs (by omega)
      have b := h q (by omega) hq a.1
      rw [sm_il_s ⟨by omega, b.2.2.2⟩ (by omega)]
      refine ih ((Ls q) + 1).toNat (by omega) (Ls q) s rfl (by omega) (fun z => ?_)
      have := b.2.1 z
      exact ⟨this.1, by omega⟩
def sm_SK (ss sv so Ht Ls : Int → Int) (nb ns base h q : Int) : Prop := ∀ s : Int, 0 ≤ s → s < h → (sm_il Ht Ls q s = 1 → ss (base + s) = 8 ∧ -1 ≤ sv (base + s) ∧ sv (base + s) < nb) ∧ (¬ sm_il Ht Ls q s = 1 → sm_VO so nb ns (ss (base + s)) (sv (base + s)))
theorem sm_SK_0 {ss sv so Ht Ls : Int → Int} {nb ns base h q : Int} (hh : h ≤ 0) : sm_SK ss sv so Ht Ls nb ns base h q := fun s h0 h1 => by omega
theorem sm_SK_pop {ss sv so Ht Ls : Int → Int} {nb ns base h h' q : Int} (k : sm_SK ss sv so Ht Ls nb ns base h q) (hh : h' ≤ h) : sm_SK ss sv so Ht Ls nb ns base h' q := fun s h0 h1 => k s h0 (by omega)
theorem sm_SK_m {ss sv so so' Ht Ls : Int → Int} {nb ns nb' ns' base h q : Int} (k : sm_SK ss sv so Ht Ls nb ns base h q) (hn : nb ≤ nb') (hs : ns ≤ ns') (f : sm_F1 so so' nb) : sm_SK ss sv so' Ht Ls nb' ns' base h q := fun s h0 h1 => by
  obtain ⟨a, b⟩ := k s h0 h1
  exact ⟨fun z => by have := a z; omega, fun z => sm_VO_m (b z) hn hs f⟩
theorem sm_SK_F {ss sv ss' sv' so Ht Ls : Int → Int} {nb ns base h q m m2 : Int} (k : sm_SK ss sv so Ht Ls nb ns base h q) (f : sm_F1 ss ss' m) (g : sm_F1 sv sv' m2) (hm : base + h ≤ m) (hm2 : base + h ≤ m2) : sm_SK ss' sv' so Ht Ls nb ns base h q := fun s h0 h1 => by
  rw [f (base + s) (by omega), g (base + s) (by omega)]
  exact k s h0 h1
/-- the values of the topmost slots -/
theorem sm_SK_at {ss sv so op Ht Ls : Int → Int} {nb ns base h q n : Int} (k : sm_SK ss sv so Ht Ls nb ns base h q) (l : sm_LS op Ht Ls n) (s : Int) (h0 : 0 ≤ s) (h1 : s < h) (hq : q < n) (hl : 0 ≤ q → op q = 29 ∧ Ht q ≤ s) : sm_VO so nb ns (ss (base + s)) (sv (base + s)) := (k s h0 h1).2 (by
  rw [sm_il_hi l _ q s rfl hq hl]
  decide)
theorem sm_SK_list {ss sv so op Ht Ls : Int → Int} {nb ns base h q n : Int} (k : sm_SK ss sv so Ht Ls nb ns base h q) (l : sm_LS op Ht Ls n) (h0 : 0 ≤ q) (h1 : q < n) (ho : op q = 29) (hq : Ht q = h) : ss (base + h - 1) = 8 ∧ -1 ≤ sv (base + h - 1) ∧ sv (base + h - 1) < nb := by
  have b := l q h0 h1 ho
  have := (k (h - 1) (by omega) (by omega)).1 (sm_il_y ⟨h0, b.2.2.2⟩ (by omega))
  rw [show base + (h - 1) = base + h - 1 by omega] at this
  exact this
theorem sm_SK_push {ss sv so op Ht Ls : Int → Int} {nb ns base h h' q n i : Int} (k : sm_SK ss sv so Ht Ls nb ns base h q) (l : sm_LS op Ht Ls n) (hq : q < n) (hl : 0 ≤ q → op q = 29 ∧ Ht q ≤ h) (hi : i = base + h) (v : sm_VO so nb ns (ss i) (sv i)) (hh : h' = h + 1) : sm_SK ss sv so Ht Ls nb ns base h' q := fun s h0 h1 => by
  by_cases z : s = h
  · refine ⟨fun w => ?_, fun _ => by rw [z, ← hi]; exact v⟩
    rw [z, sm_il_hi l _ q h rfl hq hl] at w
    exact absurd w (by decide)
  · exact k s h0 (by omega)
theorem sm_SK_names {ss sv so op Ht Ls : Int → Int} {nb ns base h h' q p n i : Int} (k : sm_SK ss sv so Ht Ls nb ns base h q) (l : sm_LS op Ht Ls n) (h0 : 0 ≤ p) (h1 : p < n) (ho : op p = 29) (hq : Ls p = q) (hp : Ht p = h + 1) (hi : i = base + h) (v : ss i = 8 ∧ -1 ≤ sv i ∧ sv i < nb) (hh : h' = h + 1) : sm_SK ss sv so Ht Ls nb ns base h' p := fun s s0 s1 => by
  have b := l p h0 h1 ho
  by_cases z : s = h
  · refine ⟨fun _ => by rw [z, ← hi]; exact v, fun w => absurd (sm_il_y ⟨h0, b.2.2.2⟩ (by omega)) w⟩
  · rw [sm_il_s ⟨h0, b.2.2.2⟩ (by omega), hq]
    exact k s s0 (by omega)
theorem sm_SK_dropl {ss sv so op Ht Ls : Int → Int} {nb ns base h h' q n : Int} (k : sm_SK ss sv so Ht Ls nb ns base h q) (l : sm_LS op Ht Ls n) (h0 : 0 ≤ q) (h1 : q < n) (ho : op q = 29) (hq : Ht q = h) (hh : h' = h - 1) : sm_SK ss sv so Ht Ls nb ns base h' (Ls q) := fun s s0 s1 => by
  have b := l q h0 h1 ho
  have := k s s0 (by omega)
  rw [sm_il_s ⟨h0, b.2.2.2⟩ (by omega)] at this
  exact this
/-- within a try the lists below it are as they were -/
def sm_CL (Ht Tr Ls : Int → Int) (n : Int) : Prop := ∀ k : Int, 0 ≤ k → k < n → 0 ≤ Tr k → ∀ s : Int, 0 ≤ s → s < Ht (Tr k) → sm_il Ht Ls (Ls k) s = sm_il Ht Ls (Ls (Tr k)) s
theorem sm_SK_toss {ss sv so Ht Tr Ls : Int → Int} {nb ns base h k n t : Int} (w : sm_SK ss sv so Ht Ls nb ns base h (Ls k)) (l : sm_CL Ht Tr Ls n) (h0 : 0 ≤ k) (h1 : k < n) (ht : Tr k = t) (ht0 : 0 ≤ t) (hh : Ht t ≤ h) : sm_SK ss sv so Ht Ls nb ns base (Ht t) (Ls t) := fun s s0 s1 => by
  have e := l k h0 h1 (by omega) s s0 (by rw [ht]; exact s1)
  rw [ht] at e
  rw [← e]
  exact w s s0 (by omega)
theorem sm_SK_q {ss sv so Ht Ls : Int → Int} {nb ns base h q q' h' base' : Int} (k : sm_SK ss sv so Ht Ls nb ns base h q) (e : q' = q) (eh : h' = h) (eb : base' = base) : sm_SK ss sv so Ht Ls nb ns base' h' q' := e ▸ eh ▸ eb ▸ k
/-! a frame that waits -/
def sm_F0 (ff fs fts ft fp fh fn ftr tpl thh ss sv a fo Ht Tr Td Ls op gs so : Int → Int) (n nf nb ns i : Int) : Prop :=
  (0 ≤ ff i ∧ ff i < nf ∧ 0 ≤ fp i ∧ fp i < n ∧ fo (fp i) = ff i ∧ fh i = Ht (fp i) - 1 ∧ 0 ≤ fh i ∧ fh i ≤ 396) ∧ (ftr i = sm_dp Td (Tr (fp i))) ∧ sm_TC tpl thh a Ht Tr Td (40 * i) (Tr (fp i)) ∧ sm_SK ss sv so Ht Ls nb ns (400 * i) (fh i) (Ls (fp i)) ∧
  (0 ≤ Ls (fp i) → op (Ls (fp i)) = 29 ∧ Ht (Ls (fp i)) ≤ fh i) ∧ (0 ≤ Tr (fp i) → op (Tr (fp i)) = 27 ∧ Ht (Tr (fp i)) ≤ fh i) ∧ sm_LK gs nb (fs i) (ff i) ∧ sm_VO so nb ns (fts i) (ft i) ∧ (fn i = -1 ∨ (0 ≤ fn i ∧ fn i < nb ∧ ¬ so (fn i) = 3))
def sm_FL (ff fs fts ft fp fh fn ftr tpl thh ss sv a fo Ht Tr Td Ls op gs so : Int → Int) (n nf nb ns T : Int) : Prop := ∀ i : Int, 0 ≤ i → i < T → sm_F0 ff fs fts ft fp fh fn ftr tpl thh ss sv a fo Ht Tr Td Ls op gs so n nf nb ns i
theorem sm_LK_m {gs gs' : Int → Int} {nb nb' x h : Int} (w : sm_LK gs nb x h) (hn : nb ≤ nb') (f : sm_F1 gs gs' nb) : sm_LK gs' nb' x h := by
  rcases w with w | w
  · exact Or.inl w
  · exact Or.inr ⟨w.1, w.2.1, by omega, (f x w.2.2.1).trans w.2.2.2⟩
theorem sm_LK_e {gs : Int → Int} {nb x h : Int} (w : sm_LK gs nb x h) : (h = 0 ∧ x = -1) ∨ (1 ≤ h ∧ 0 ≤ x ∧ x < nb ∧ gs x = h) := w
theorem sm_FL_0 {ff fs fts ft fp fh fn ftr tpl thh ss sv a fo Ht Tr Td Ls op gs so : Int → Int} {n nf nb ns T : Int} (h : T ≤ 0) : sm_FL ff fs fts ft fp fh fn ftr tpl thh ss sv a fo Ht Tr Td Ls op gs so n nf nb ns T := fun i i0 i1 => by omega
theorem sm_FL_w {ff fs fts ft fp fh fn ftr tpl thh ss sv a fo Ht Tr Td Ls op gs so : Int → Int} {n nf nb ns T T' : Int} (w : sm_FL ff fs fts ft fp fh fn ftr tpl thh ss sv a fo Ht Tr Td Ls op gs so n nf nb ns T) (h : T' ≤ T) : sm_FL ff fs fts ft fp fh fn ftr tpl thh ss sv a fo Ht Tr Td Ls op gs so n nf nb ns T' := fun i i0 i1 => w i i0 (by omega)
/-- nothing below T changes but that heap and names grow -/
theorem sm_FL_F {ff fs fts ft fp fh fn ftr tpl thh ss sv ff' fs' fts' ft' fp' fh' fn' ftr' tpl' thh' ss' sv' a fo Ht Tr Td Ls op gs so gs' so' : Int → Int} {n nf nb ns nb' ns' T : Int} (w : sm_FL ff fs fts ft fp fh fn ftr tpl thh ss sv a fo Ht Tr Td Ls op gs so n nf nb ns T)
    (e1 : sm_F1 ff ff' T) (e2 : sm_F1 fs fs' T) (e3 : sm_F1 fts fts' T) (e4 : sm_F1 ft ft' T) (e5 : sm_F1 fp fp' T) (e6 : sm_F1 fh fh' T) (e7 : sm_F1 fn fn' T) (e8 : sm_F1 ftr ftr' T) (e9 : sm_F1 tpl tpl' (40 * T)) (e10 : sm_F1 thh thh' (40 * T)) (e11 : sm_F1 ss ss' (400 * T)) (e12 : sm_F1 sv sv' (400 * T)) (hn : nb ≤ nb') (hs : ns ≤ ns') (g : sm_F1 gs gs' nb) (f : sm_F1 so so' nb) (ht : ∀ i : Int, 0 ≤ i → i < T → sm_dp Td (Tr (fp i)) ≤ 40) :
    sm_FL ff' fs' fts' ft' fp' fh' fn' ftr' tpl' thh' ss' sv' a fo Ht Tr Td Ls op gs' so' n nf nb' ns' T := fun i i0 i1 => by
  obtain ⟨a1, a2, a3, a4, a5, a6, a7, a8, a9⟩ := w i i0 i1
  unfold sm_F0
  rw [e1 i i1, e2 i i1, e3 i i1, e4 i i1, e5 i i1, e6 i i1, e7 i i1, e8 i i1]
  have d := ht i i0 i1
  refine ⟨a1, a2, fun j j0 j1 => ?_, sm_SK_F (sm_SK_m a4 hn hs f) e11 e12 (by omega) (by omega), a5, a6, sm_LK_m a7 hn g, sm_VO_m a8 hn hs f, ?_⟩
  · rw [e9 (40 * i + j) (by omega), e10 (40 * i + j) (by omega)]
    exact a3 j j0 j1
  · rcases a9 with q | q
    · exact Or.inl q
    · refine Or.inr ⟨q.1, by omega, ?_⟩
      rw [f _ q.2.1]; exact q.2.2
theorem sm_FL_dp {ff fs fts ft fp fh fn ftr tpl thh ss sv op a b fo Ht Tr Td Ls ar gs so : Int → Int} {n nf ns' si nb ns T : Int} (w : sm_FL ff fs fts ft fp fh fn ftr tpl thh ss sv a fo Ht Tr Td Ls op gs so n nf nb ns T) (h : sm_CT op a b fo Ht Tr Td Ls ar n nf ns' si) : ∀ i : Int, 0 ≤ i → i < T → sm_dp Td (Tr (fp i)) ≤ 40 := fun i i0 i1 => by
  have q := (w i i0 i1).1
  have c := sm_ct_0 h (fp i) q.2.2.1 q.2.2.2.1
  rw [← sm_dp_k h (fp i) q.2.2.1 q.2.2.2.1]
  omega
theorem sm_FL_in {ff fs fts ft fp fh fn ftr tpl thh ss sv a fo Ht Tr Td Ls op gs so : Int → Int} {n nf nb ns T T' : Int} (w : sm_FL ff fs fts ft fp fh fn ftr tpl thh ss sv a fo Ht Tr Td Ls op gs so n nf nb ns T) (q : sm_F0 ff fs fts ft fp fh fn ftr tpl thh ss sv a fo Ht Tr Td Ls op gs so n nf nb ns T) (h : T' = T + 1) : sm_FL ff fs fts ft fp fh fn ftr tpl thh ss sv a fo Ht Tr Td Ls op gs so n nf nb ns T' := fun i i0 i1 => by
  by_cases z : i = T
  · rw [z]; exact q
  · exact w i i0 (by omega)
theorem sm_FL_at {ff fs fts ft fp fh fn ftr tpl thh ss sv a fo Ht Tr Td Ls op gs so : Int → Int} {n nf nb ns T : Int} (w : sm_FL ff fs fts ft fp fh fn ftr tpl thh ss sv a fo Ht Tr Td Ls op gs so n nf nb ns T) (i : Int) (i0 : 0 ≤ i) (i1 : i < T) : (0 ≤ ff i ∧ ff i < nf ∧ 0 ≤ fp i ∧ fp i < n ∧ fo (fp i) = ff i ∧ fh i = Ht (fp i) - 1 ∧ 0 ≤ fh i ∧ fh i ≤ 396) ∧ (ftr i = sm_dp Td (Tr (fp i))) ∧ sm_TC tpl thh a Ht Tr Td (40 * i) (Tr (fp i)) ∧ sm_SK ss sv so Ht Ls nb ns (400 * i) (fh i) (Ls (fp i)) ∧
  (0 ≤ Ls (fp i) → op (Ls (fp i)) = 29 ∧ Ht (Ls (fp i)) ≤ fh i) ∧ (0 ≤ Tr (fp i) → op (Tr (fp i)) = 27 ∧ Ht (Tr (fp i)) ≤ fh i) ∧ sm_LK gs nb (fs i) (ff i) ∧ sm_VO so nb ns (fts i) (ft i) ∧ (fn i = -1 ∨ (0 ≤ fn i ∧ fn i < nb ∧ ¬ so (fn i) = 3)) := w i i0 i1
theorem sm_F1_ne {a b : Int → Int} {i n : Int} (h : ∀ k : Int, ¬ k = i → b k = a k) (hn : n ≤ i) : sm_F1 a b n := fun k hk => h k (by omega)
theorem sm_LK_q {gs : Int → Int} {nb x h x' h' : Int} (w : sm_LK gs nb x h) (a : x' = x) (b : h' = h) : sm_LK gs nb x' h' := a ▸ b ▸ w
/-! a value is tossed: the frame that may take it -/
def sm_FG (ff fs fts ft fp fh fn ftr tpl thh ss sv a fo Ht Tr Td Ls op gs so : Int → Int) (n nf nb ns i : Int) : Prop :=
  (0 ≤ ff i ∧ ff i < nf ∧ 0 ≤ fp i ∧ fp i < n ∧ fo (fp i) = ff i) ∧ (ftr i = sm_dp Td (Tr (fp i))) ∧ sm_TC tpl thh a Ht Tr Td (40 * i) (Tr (fp i)) ∧
  (0 ≤ Tr (fp i) → (Tr (fp i) < n ∧ op (Tr (fp i)) = 27 ∧ fo (Tr (fp i)) = ff i) ∧ sm_SK ss sv so Ht Ls nb ns (400 * i) (Ht (Tr (fp i))) (Ls (Tr (fp i)))) ∧ sm_LK gs nb (fs i) (ff i) ∧ sm_VO so nb ns (fts i) (ft i) ∧ (fn i = -1 ∨ (0 ≤ fn i ∧ fn i < nb ∧ ¬ so (fn i) = 3))
theorem sm_FG_at {ff fs fts ft fp fh fn ftr tpl thh ss sv a fo Ht Tr Td Ls op gs so : Int → Int} {n nf nb ns i : Int} (h : sm_FG ff fs fts ft fp fh fn ftr tpl thh ss sv a fo Ht Tr Td Ls op gs so n nf nb ns i) : (0 ≤ ff i ∧ ff i < nf ∧ 0 ≤ fp i ∧ fp i < n ∧ fo (fp i) = ff i) ∧ (ftr i = sm_dp Td (Tr (fp i))) ∧ sm_TC tpl thh a Ht Tr Td (40 * i) (Tr (fp i)) ∧
  (0 ≤ Tr (fp i) → (Tr (fp i) < n ∧ op (Tr (fp i)) = 27 ∧ fo (Tr (fp i)) = ff i) ∧ sm_SK ss sv so Ht Ls nb ns (400 * i) (Ht (Tr (fp i))) (Ls (Tr (fp i)))) ∧ sm_LK gs nb (fs i) (ff i) ∧ sm_VO so nb ns (fts i) (ft i) ∧ (fn i = -1 ∨ (0 ≤ fn i ∧ fn i < nb ∧ ¬ so (fn i) = 3)) := h
theorem sm_FG_t {ff fs fts ft fp fh fn ftr tpl thh ss sv a b fo Ht Tr Td Ls op ar gs so : Int → Int} {n nf ns' si nb ns i h q base : Int} (ct : sm_CT op a b fo Ht Tr Td Ls ar n nf ns' si) (cl : sm_CL Ht Tr Ls n)
    (e1 : 0 ≤ ff i ∧ ff i < nf ∧ 0 ≤ fp i ∧ fp i < n ∧ fo (fp i) = ff i) (e2 : ftr i = sm_dp Td (Tr (fp i))) (e3 : sm_TC tpl thh a Ht Tr Td base (Tr (fp i))) (eb : base = 40 * i) (e4 : sm_SK ss sv so Ht Ls nb ns (400 * i) h q) (eq : q = Ls (fp i)) (eh : 0 ≤ Tr (fp i) → Ht (Tr (fp i)) ≤ h) (e5 : sm_LK gs nb (fs i) (ff i)) (e6 : sm_VO so nb ns (fts i) (ft i)) (e7 : fn i = -1 ∨ (0 ≤ fn i ∧ fn i < nb ∧ ¬ so (fn i) = 3)) :
    sm_FG ff fs fts ft fp fh fn ftr tpl thh ss sv a fo Ht Tr Td Ls op gs so n nf nb ns i := by
  subst eb eq
  have c0 := sm_ct_0 ct (fp i) e1.2.2.1 e1.2.2.2.1
  have c1 := sm_ct_1 ct (fp i) e1.2.2.1 e1.2.2.2.1
  exact ⟨e1, e2, e3, fun z => ⟨⟨by omega, (c1 z).1, by rw [(c1 z).2.1]; exact e1.2.2.2.2⟩, sm_SK_toss e4 cl e1.2.2.1 e1.2.2.2.1 rfl z (eh z)⟩, e5, e6, e7⟩
theorem sm_FG_0 {ff fs fts ft fp fh fn ftr tpl thh ss sv a b fo Ht Tr Td Ls op ar gs so : Int → Int} {n nf ns' si nb ns T : Int} (w : sm_FL ff fs fts ft fp fh fn ftr tpl thh ss sv a fo Ht Tr Td Ls op gs so n nf nb ns T) (ct : sm_CT op a b fo Ht Tr Td Ls ar n nf ns' si) (cl : sm_CL Ht Tr Ls n) (i : Int) (i0 : 0 ≤ i) (i1 : i < T) :
    sm_FG ff fs fts ft fp fh fn ftr tpl thh ss sv a fo Ht Tr Td Ls op gs so n nf nb ns i := by
  obtain ⟨a1, a2, a3, a4, a5, a6, a7, a8, a9⟩ := w i i0 i1
  exact sm_FG_t ct cl ⟨a1.1, a1.2.1, a1.2.2.1, a1.2.2.2.1, a1.2.2.2.2.1⟩ a2 a3 rfl a4 rfl (fun z => (a6 z).2) a7 a8 a9
theorem sm_TC_hand {tp th op a b fo Ht Tr Td Ls ar : Int → Int} {n nf ns si t base : Int} (h : sm_CT op a b fo Ht Tr Td Ls ar n nf ns si) (q : sm_TC tp th a Ht Tr Td base t) (h0 : 0 ≤ t) (h1 : t < n) (ho : op t = 27) : (0 ≤ Td t ∧ Td t < 40 ∧ sm_dp Td t = Td t + 1 ∧ Td t = sm_dp Td (Tr t) ∧ -1 ≤ Tr t ∧ Tr t < t) ∧ (tp (base + Td t) = a t ∧ th (base + Td t) = Ht t ∧ 0 ≤ Ht t ∧ Ht t ≤ 396) ∧ (0 ≤ a t ∧ a t < n ∧ fo (a t) = fo t ∧ Ht (a t) = Ht t + 1 ∧ Tr (a t) = Tr t ∧ Ls (a t) = Ls t) ∧ sm_TC tp th a Ht Tr Td base (Tr t) ∧ (-1 ≤ Ls t ∧ Ls t < t ∧ (0 ≤ Ls t → op (Ls t) = 29 ∧ Ht (Ls t) ≤ Ht t)) := by
  have a0 := sm_ct_0 h t h0 h1
  have a1 := sm_ct_1 h t h0 h1
  have a3 := sm_ct_3 h t h0 h1
  have a24 := sm_ct_24 h t h0 h1 ho
  have d := sm_dp_k h t h0 h1
  obtain ⟨e1, e2⟩ := sm_TC_top q h0 ⟨by omega, by omega⟩ (by omega)
  have m := a24.2.2.2
  unfold sm_at at m
  exact ⟨⟨by omega, a24.1, sm_dp_s h0, d, by omega, by omega⟩, ⟨e1, e2, by omega, by omega⟩, ⟨m.1, m.2.1, m.2.2.1, m.2.2.2.1, m.2.2.2.2.1, m.2.2.2.2.2⟩, sm_TC_pop q h0 ⟨by omega, by omega⟩ d, by omega, by omega, fun z => ⟨(a3 z).1, (a3 z).2.2.1⟩⟩
theorem sm_dp_ne {Td : Int → Int} {t : Int} (h : ¬ sm_dp Td t = 0) : 0 ≤ t := by
  by_cases q : t < 0
  · exact absurd (sm_dp_n q) h
  · omega
/-- a frame's new object -/
def sm_FW (so : Int → Int) (nb x : Int) : Prop := x = -1 ∨ (0 ≤ x ∧ x < nb ∧ ¬ so x = 3)
theorem sm_FW_m {so so' : Int → Int} {nb nb' x : Int} (w : sm_FW so nb x) (hn : nb ≤ nb') (f : sm_F1 so so' nb) : sm_FW so' nb' x := by
  rcases w with q | q
  · exact Or.inl q
  · refine Or.inr ⟨q.1, by omega, ?_⟩
    rw [f x q.2.1]; exact q.2.2
theorem sm_FW_q {so : Int → Int} {nb x x' : Int} (w : sm_FW so nb x) (e : x' = x) : sm_FW so nb x' := e ▸ w
theorem sm_FW_e {so : Int → Int} {nb x : Int} (w : sm_FW so nb x) : x = -1 ∨ (0 ≤ x ∧ x < nb ∧ ¬ so x = 3) := w
/-! the function so many functions out -/
def sm_uN (ar : Int → Int) (f : Int) : Nat → Int
  | 0 => f
  | n + 1 => ar (sm_uN ar f n)
def sm_ua (ar : Int → Int) (f k : Int) : Int := sm_uN ar f k.toNat
theorem sm_ua_0 {ar : Int → Int} {f : Int} : sm_ua ar f 0 = f := rfl
theorem sm_ua_s {ar : Int → Int} {f k k' : Int} (h : 0 ≤ k) (hk : k' = k + 1) : sm_ua ar f k' = ar (sm_ua ar f k) := by
  unfold sm_ua
  rw [show k'.toNat = k.toNat + 1 by omega]
  rfl
def sm_UA (ar : Int → Int) (f n : Int) : Prop := ∀ j : Int, 0 ≤ j → j ≤ n → 1 ≤ sm_ua ar f j
theorem sm_UA_at {ar : Int → Int} {f n : Int} (h : sm_UA ar f n) (j : Int) (h0 : 0 ≤ j) (h1 : j ≤ n) : 1 ≤ sm_ua ar f j := h j h0 h1
theorem sm_LK_1 {gs : Int → Int} {nb x h : Int} (w : sm_LK gs nb x h) (h1 : 1 ≤ h) : 0 ≤ x ∧ x < nb ∧ gs x = h := by
  rcases w with q | q
  · omega
  · exact ⟨q.2.1, q.2.2.1, q.2.2.2⟩
theorem sm_SC_s {gs so co li ar : Int → Int} {nb nf o : Int} (h : sm_SC gs so co li ar nb nf) (h0 : 0 ≤ o) (h1 : o < nb) (h2 : 1 ≤ gs o) : so o = 3 ∧ sm_LK gs nb (li o) (ar (gs o)) := (h o h0 h1).2 h2
/-- code's variables: each name lies among its function's -/
def sm_CV (op a b fo ar vs vm : Int → Int) (n : Int) : Prop := ∀ k : Int, 0 ≤ k → k < n → (op k = 1 ∨ op k = 2) → 0 ≤ a k ∧ sm_UA ar (fo k) (a k) ∧ ∃ i : Int, 0 ≤ i ∧ i < vm (sm_ua ar (fo k) (a k)) ∧ vs (100 * sm_ua ar (fo k) (a k) + i) = b k
theorem sm_CV_u {op a b fo ar vs vm : Int → Int} {n : Int} (h : sm_CV op a b fo ar vs vm n) (k : Int) (h0 : 0 ≤ k) (h1 : k < n) (h2 : op k = 1 ∨ op k = 2) : sm_UA ar (fo k) (a k) := (h k h0 h1 h2).2.1
theorem sm_CV_f {op a b fo ar vs vm ow pn se gs : Int → Int} {n nb nf k o : Int} (h : sm_CV op a b fo ar vs vm n) (w : sm_SV ow pn gs vs vm nb nf) (h0 : 0 ≤ k) (h1 : k < n) (h2 : op k = 1 ∨ op k = 2) (o0 : 0 ≤ o) (o1 : o < nb) (og : gs o = sm_ua ar (fo k) (a k)) (q : sm_NB ow se pn o (b k) (-1)) : False := by
  obtain ⟨z, u, i, i0, i1, i2⟩ := h k h0 h1 h2
  have g1 := u (a k) z (Int.le_refl _)
  have := (w o o0 o1 (by omega)).2 i i0 (by rw [og]; exact i1)
  rw [og, i2] at this
  exact sm_HN_no this q
theorem sm_AL_i {ow pn ps pv so : Int → Int} {nb e o r : Int} (h : sm_AL ow pn ps pv so nb e) (q : r = 0 → sm_HN ow pn o 0) (he : r = 0 → o = e) : sm_AL ow pn ps pv so nb (if r = 0 then -1 else e) := by
  by_cases z : r = 0
  · obtain ⟨p, p0, p1, p2, p3⟩ := q z
    rw [if_pos z]
    exact sm_AL_e h p0 p1 (p2.trans (he z)) p3 (-1)
  · rw [if_neg z]
    exact h
theorem sm_SC_li {gs so co li ar : Int → Int} {nb nf o x : Int} (h : sm_SC gs so co li ar nb nf) (hc : co o < 1 ∨ ¬ so o = 1) (hg : gs o < 1) : sm_SC gs so co (fun i' : Int => if i' = o then x else li i') ar nb nf := fun q q0 q1 => by
  (try dsimp only)
  obtain ⟨a, b⟩ := h q q0 q1
  by_cases z : q = o
  · refine ⟨fun w v => ?_, fun w => ?_⟩
    · rw [z] at w v; rcases hc with hc | hc
      · omega
      · exact absurd w hc
    · rw [z] at w; omega
  · rw [if_neg z]; exact ⟨a, b⟩
theorem sm_SC_co {gs so co li ar : Int → Int} {nb nf o x : Int} (h : sm_SC gs so co li ar nb nf) (hx : x < nf) (hl : sm_LK gs nb (li o) (ar x)) : sm_SC gs so (fun i' : Int => if i' = o then x else co i') li ar nb nf := fun q q0 q1 => by
  (try dsimp only)
  obtain ⟨a, b⟩ := h q q0 q1
  by_cases z : q = o
  · rw [if_pos z]; rw [z] at b ⊢; exact ⟨fun _ _ => ⟨hx, hl⟩, b⟩
  · rw [if_neg z]; exact ⟨a, b⟩
theorem sm_LK_gs {gs : Int → Int} {nb o g x y : Int} (hg : gs o < 1) (w : sm_LK gs nb x y) : sm_LK (fun i' : Int => if i' = o then g else gs i') nb x y := by
  rcases w with w | w
  · exact Or.inl w
  · refine Or.inr ⟨w.1, w.2.1, w.2.2.1, ?_⟩
    (try dsimp only)
    rw [if_neg (fun z => by rw [z] at w; omega)]; exact w.2.2.2
theorem sm_SC_gs {gs so co li ar : Int → Int} {nb nf o g : Int} (h : sm_SC gs so co li ar nb nf) (hs : so o = 3) (hl : sm_LK gs nb (li o) (ar g)) (hg : gs o < 1) : sm_SC (fun i' : Int => if i' = o then g else gs i') so co li ar nb nf := fun q q0 q1 => by
  obtain ⟨a, b⟩ := h q q0 q1
  refine ⟨fun w v => ⟨(a w v).1, sm_LK_gs hg (a w v).2⟩, fun w => ?_⟩
  (try dsimp only at w ⊢)
  by_cases z : q = o
  · rw [if_pos z, z]; exact ⟨hs, sm_LK_gs hg hl⟩
  · rw [if_neg z] at w ⊢; exact ⟨(b w).1, sm_LK_gs hg (b w).2⟩
theorem sm_VO_7 {so : Int → Int} {nb ns v : Int} (h0 : 0 ≤ v) (h1 : v < nb) (h : ¬ so v = 3) : sm_VO so nb ns 7 v := ⟨by decide, by decide, fun q => absurd q (by decide), fun _ => ⟨h0, h1, h⟩⟩
theorem sm_SK_d17 {ss sv so op a b fo Ht Tr Td Ls ar : Int → Int} {n nf ns' si nb ns base h q k : Int} (ct : sm_CT op a b fo Ht Tr Td Ls ar n nf ns' si) (l : sm_LS op Ht Ls n) (w : sm_SK ss sv so Ht Ls nb ns base h q) (k0 : 0 ≤ k) (k1 : k < n) (ho : op k = 17) (hq : q = Ls k) (hh : h = Ht k) :
    sm_SK ss sv so Ht Ls nb ns base (h - 1) (Ls (k + 1)) ∧ k + 1 < n ∧ fo (k + 1) = fo k ∧ Ht (k + 1) = Ht k - 1 ∧ Tr (k + 1) = Tr k ∧ 1 ≤ Ht k ∧ -1 ≤ Ls (k + 1) := by
  have c0 := sm_ct_0 ct k k0 k1
  have c3 := sm_ct_3 ct k k0 k1
  obtain ⟨a1, a2, c⟩ := sm_ct_16 ct k k0 k1 ho
  subst hq
  rcases c with ⟨b1, b2, c⟩ | ⟨b1, c⟩
  · unfold sm_at at c
    refine ⟨?_, c.2.1, c.2.2.1, c.2.2.2.1, c.2.2.2.2.1, a1, (sm_ct_0 ct (k + 1) (by omega) c.2.1).2.2.2.2.2.2.2.2.2.2.2.1⟩
    rw [c.2.2.2.2.2]
    exact sm_SK_dropl w l b1 (by omega) (c3 b1).1 (by omega) rfl
  · unfold sm_at at c
    refine ⟨?_, c.2.1, c.2.2.1, c.2.2.2.1, c.2.2.2.2.1, a1, (sm_ct_0 ct (k + 1) (by omega) c.2.1).2.2.2.2.2.2.2.2.2.2.2.1⟩
    rw [c.2.2.2.2.2]
    exact sm_SK_pop w (by omega)
theorem sm_FL_push {ff fs fts ft fp fh fn ftr tpl thh ss sv a b fo Ht Tr Td Ls op ar gs so : Int → Int} {n nf ns' si nb ns T T' base base2 q p : Int} (ct : sm_CT op a b fo Ht Tr Td Ls ar n nf ns' si) (w : sm_FL ff fs fts ft fp fh fn ftr tpl thh ss sv a fo Ht Tr Td Ls op gs so n nf nb ns T)
    (e1 : 0 ≤ ff T ∧ ff T < nf ∧ 0 ≤ p ∧ p < n ∧ fo p = ff T ∧ fh T = Ht p - 1 ∧ 0 ≤ fh T ∧ fh T ≤ 396) (e2 : ftr T = sm_dp Td (Tr p)) (e3 : sm_TC tpl thh a Ht Tr Td base (Tr p)) (eb : base = 40 * T) (e4 : sm_SK ss sv so Ht Ls nb ns base2 (fh T) q) (eb2 : base2 = 400 * T) (eq : q = Ls p)
    (e5 : 0 ≤ Ls p → Ht (Ls p) ≤ fh T) (e6 : 0 ≤ Tr p → Ht (Tr p) ≤ fh T) (e7 : sm_LK gs nb (fs T) (ff T)) (e8 : sm_VO so nb ns (fts T) (ft T)) (e9 : sm_FW so nb (fn T)) (hT : T' = T + 1) (hp : fp T = p) :
    sm_FL ff fs fts ft fp fh fn ftr tpl thh ss sv a fo Ht Tr Td Ls op gs so n nf nb ns T' := by
  subst eb eb2 eq
  subst hp
  have c1 := sm_ct_1 ct (fp T) e1.2.2.1 e1.2.2.2.1
  have c3 := sm_ct_3 ct (fp T) e1.2.2.1 e1.2.2.2.1
  exact sm_FL_in w ⟨e1, e2, e3, e4, fun z => ⟨(c3 z).1, e5 z⟩, fun z => ⟨(c1 z).1, e6 z⟩, e7, e8, e9⟩ hT
theorem sm_SK_arg {ss sv so op Ht Ls : Int → Int} {nb ns base h q n at' many j c : Int} (k : sm_SK ss sv so Ht Ls nb ns base h q) (l : sm_LS op Ht Ls n) (e : at' + many = base + h) (j0 : 0 ≤ j) (j1 : j < many) (hm : many ≤ c - 1) (hc : c ≤ h) (hq : q < n) (o : 0 ≤ q → op q = 29) (g : 0 ≤ q → Ht q ≤ h - c) : sm_VO so nb ns (ss (at' + j)) (sv (at' + j)) := by
  have := sm_SK_at k l (h - many + j) (by omega) (by omega) hq (fun z => ⟨o z, by have := g z; omega⟩)
  rw [show base + (h - many + j) = at' + j by omega] at this
  exact this
theorem sm_HN_q {ow pn : Int → Int} {o n n' : Int} (h : sm_HN ow pn o n) (e : n' = n) : sm_HN ow pn o n' := e ▸ h
theorem sm_SJ_w {ow pn vs : Int → Int} {o g j j' : Int} (h : sm_SJ ow pn vs o g j) (hj : j' ≤ j) : sm_SJ ow pn vs o g j' := fun k k0 k1 => h k k0 (by omega)
theorem sm_SK_argv {ss sv so op Ht Ls : Int → Int} {nb ns base h q n at' many j c x y : Int} (k : sm_SK ss sv so Ht Ls nb ns base h q) (l : sm_LS op Ht Ls n) (e : at' + many = base + h) (j0 : 0 ≤ j) (hm : many ≤ c - 1) (hc : c ≤ h) (hq : q < n) (o : 0 ≤ q → op q = 29) (g : 0 ≤ q → Ht q ≤ h - c) (s1 : j < many → x = ss (at' + j)) (s2 : ¬ j < many → x = 0) (v1 : j < many → y = sv (at' + j)) (v2 : ¬ j < many → y = 0) : sm_VO so nb ns x y := by
  by_cases z : j < many
  · rw [s1 z, v1 z]; exact sm_SK_arg k l e j0 z hm hc hq o g
  · rw [s2 z, v2 z]; exact ⟨by decide, by decide, fun w => absurd w (by decide), fun w => absurd w (by decide)⟩
/-- heights in bounds, live slots that hold a LIST -/
def sm_LX (fh ss sv : Int → Int) (T nb : Int) : Prop := ∀ f : Int, 0 ≤ f → f < T → (0 ≤ fh f ∧ fh f ≤ 400) ∧ ∀ k : Int, 0 ≤ k → k < fh f → ss (400 * f + k) = 8 → -1 ≤ sv (400 * f + k) ∧ sv (400 * f + k) < nb
theorem sm_LX_m {fh ss sv : Int → Int} {T nb nb' : Int} (h : sm_LX fh ss sv T nb) (hn : nb ≤ nb') : sm_LX fh ss sv T nb' := fun f f0 f1 => ⟨(h f f0 f1).1, fun k k0 k1 k2 => by have := (h f f0 f1).2 k k0 k1 k2; omega⟩
theorem sm_LX_0 {fh ss sv : Int → Int} {T nb : Int} (h : T ≤ 0) : sm_LX fh ss sv T nb := fun f f0 f1 => by omega
theorem sm_LX_at {fh ss sv : Int → Int} {T nb f : Int} (h : sm_LX fh ss sv T nb) (f0 : 0 ≤ f) (f1 : f < T) : 0 ≤ fh f ∧ fh f ≤ 400 := (h f f0 f1).1
theorem sm_LX_l {fh ss sv : Int → Int} {T nb f k : Int} (h : sm_LX fh ss sv T nb) (f0 : 0 ≤ f) (f1 : f < T) (k0 : 0 ≤ k) (k1 : k < fh f) (e : ss (400 * f + k) = 8) : -1 ≤ sv (400 * f + k) ∧ sv (400 * f + k) < nb := (h f f0 f1).2 k k0 k1 e
theorem sm_SK_8 {ss sv so Ht Ls : Int → Int} {nb ns base h q : Int} (w : sm_SK ss sv so Ht Ls nb ns base h q) (k : Int) (k0 : 0 ≤ k) (k1 : k < h) (e : ss (base + k) = 8) : -1 ≤ sv (base + k) ∧ sv (base + k) < nb := by
  obtain ⟨a, b⟩ := w k k0 k1
  by_cases z : sm_il Ht Ls q k = 1
  · exact (a z).2
  · have := (b z).2.1
    omega
theorem sm_LX_i {ff fs fts ft fp fh fn ftr tpl thh ss sv a fo Ht Tr Td Ls op gs so : Int → Int} {n nf nb ns T base h q : Int} (w : sm_FL ff fs fts ft fp fh fn ftr tpl thh ss sv a fo Ht Tr Td Ls op gs so n nf nb ns (T - 1)) (k : sm_SK ss sv so Ht Ls nb ns base h q) (eb : base = 400 * (T - 1)) (eh : fh (T - 1) = h) (h0 : 0 ≤ h) (h1 : h ≤ 400) : sm_LX fh ss sv T nb := fun f f0 f1 => by
  by_cases z : f = T - 1
  · subst z
    subst eb
    rw [eh]
    exact ⟨⟨h0, h1⟩, fun j j0 j1 e => sm_SK_8 k j j0 j1 e⟩
  · obtain ⟨a1, a2, a3, a4, a5⟩ := w f f0 (by omega)
    exact ⟨by omega, fun j j0 j1 e => sm_SK_8 a4 j j0 j1 e⟩
/-- what was printed -/
def sm_PT (pl : Int → Int) (m ns : Int) : Prop := ∀ i : Int, 0 ≤ i → i < m → 0 ≤ pl i ∧ pl i < ns
theorem sm_PT_w {pl : Int → Int} {m m' ns ns' : Int} (h : sm_PT pl m ns) (hm : m' ≤ m) (hs : ns ≤ ns') : sm_PT pl m' ns' := fun i i0 i1 => by
  have := h i i0 (by omega)
  omega
theorem sm_PT_up {pl : Int → Int} {m m' ns ns' i x : Int} (h : sm_PT pl m ns) (hs : ns ≤ ns') (hi : i = m) (hx : 0 ≤ x ∧ x < ns') (hm : m' ≤ m + 1) : sm_PT (fun i' : Int => if i' = i then x else pl i') m' ns' := fun j j0 j1 => by
  (try dsimp only)
  by_cases z : j = i
  · rw [if_pos z]; exact hx
  · rw [if_neg z]; have := h j j0 (by omega); omega
theorem sm_PT_at {pl : Int → Int} {m ns i : Int} (h : sm_PT pl m ns) (i0 : 0 ≤ i) (i1 : i < m) : 0 ≤ pl i ∧ pl i < ns := h i i0 i1
theorem sm_LX_step {ff fs fts ft fp fh fn ftr tpl thh ss sv a b fo Ht Tr Td Ls op ar gs so : Int → Int} {n nf nb ns ns' si T nr stt : Int} (ct : sm_CT op a b fo Ht Tr Td Ls ar n nf ns' si)
    (g : nr = 0 → stt = 1 → (0 ≤ fp (T - 1) ∧ fp (T - 1) < n) ∧ sm_FL ff fs fts ft fp fh fn ftr tpl thh ss sv a fo Ht Tr Td Ls op gs so n nf nb ns (T - 1) ∧ fh (T - 1) = Ht (fp (T - 1)) ∧ sm_SK ss sv so Ht Ls nb ns (400 * (T - 1)) (fh (T - 1)) (Ls (fp (T - 1))))
    (x : ¬ nr = 0 → sm_LX fh ss sv T nb) (y : stt = 1 ∨ T = 0) : sm_LX fh ss sv T nb := by
  by_cases z : nr = 0
  · by_cases w : stt = 1
    · obtain ⟨g1, g2, g3, g4⟩ := g z w
      have c := sm_ct_0 ct _ g1.1 g1.2
      exact sm_LX_i g2 g4 rfl rfl (by omega) (by omega)
    · exact sm_LX_0 (by omega)
  · exact x z

def q_gives (p1 : Int) (S : sv_S) : Option Value → sv_S → Prop := fun v S' => v = none ∧ sm_ok S' ∧ sv_mod [58, 63, 64, 57] S S' ∧ (((S' 1075 0) = 0 → (S' 1073 0) = 1 → 1 ≤ (S' 1092 0) ∧ (S' 1092 0) ≤ 24 ∧ 0 ≤ (S' 57 ((S' 1092 0) - 1)) ∧ (S' 57 ((S' 1092 0) - 1)) < (S' 1046 0) ∧ (S' 29 (S' 57 ((S' 1092 0) - 1))) = (S' 53 ((S' 1092 0) - 1)) ∧ 0 ≤ (S' 53 ((S' 1092 0) - 1)) ∧ (S' 53 ((S' 1092 0) - 1)) < (S' 1032 0) ∧ (S' 60 ((S' 1092 0) - 1)) = sm_dp (S' 1100024) (S' 1100023 (S' 57 ((S' 1092 0) - 1))) ∧ sm_TC (S' 61) (S' 62) (S' 27) (S' 1100007) (S' 1100023) (S' 1100024) (40 * ((S' 1092 0) - 1)) (S' 1100023 (S' 57 ((S' 1092 0) - 1))) ∧ sm_LK (S' 1100029) (S' 1076 0) (S' 54 ((S' 1092 0) - 1)) (S' 53 ((S' 1092 0) - 1)) ∧ sm_VO (S' 44) (S' 1076 0) (S' 1007 0) ((S' 55 ((S' 1092 0) - 1))) ((S' 56 ((S' 1092 0) - 1))) ∧ sm_FW (S' 44) (S' 1076 0) (S' 59 ((S' 1092 0) - 1)) ∧ sm_FL (S' 53) (S' 54) (S' 55) (S' 56) (S' 57) (S' 58) (S' 59) (S' 60) (S' 61) (S' 62) (S' 63) (S' 64) (S' 27) (S' 29) (S' 1100007) (S' 1100023) (S' 1100024) (S' 1100025) (S' 26) (S' 1100029) (S' 44) (S' 1046 0) (S' 1032 0) (S' 1076 0) (S' 1007 0) (((S' 1092 0) - 1)) ∧ (S' 58 ((S' 1092 0) - 1)) = (S' 1100007 (S' 57 ((S' 1092 0) - 1))) ∧ sm_SK (S' 63) (S' 64) (S' 44) (S' 1100007) (S' 1100025) (S' 1076 0) (S' 1007 0) (400 * ((S' 1092 0) - 1)) ((S' 58 ((S' 1092 0) - 1))) ((S' 1100025 (S' 57 ((S' 1092 0) - 1))))) ∧ (¬ (S' 1075 0) = 0 → sm_LX (S' 58) (S' 63) (S' 64) (S' 1092 0) (S' 1076 0)))
theorem la_gives_0 {x0 : Int} (h0 : 0 ≤ x0) (h1 : ¬ x0 = 0) : 0 < x0 := by omega
theorem la_gives_1 {x0 : Int} (h0 : 0 < x0) (h1 : x0 = 0) : False := by omega
theorem la_gives_2 {x0 : Int} (h0 : 0 ≤ x0) (h1 : ¬ ¬ x0 = 0) : x0 = 0 := by omega
theorem la_gives_3 {x0 x1 x2 : Int} (h0 : 1 ≤ x0) (h1 : x0 ≤ 24) (h2 : 0 ≤ x1) (h3 : x1 ≤ 400) (h4 : 0 ≤ x2) (h5 : x2 ≤ x1) : 1 ≤ x0 ∧ x0 ≤ 24 ∧ 0 ≤ x1 ∧ x1 ≤ 400 ∧ 0 ≤ x2 ∧ x2 ≤ x1 := by omega
theorem la_gives_4 {x0 x1 x2 x3 : Int} (h0 : 1 ≤ x0) (h1 : x0 ≤ 24) (h2 : x1 ≤ x2) (h3 : x2 - x1 ≤ 399) (h4 : x3 = x2 - x1) : 1 ≤ x0 ∧ x0 ≤ 24 ∧ 0 ≤ x3 ∧ x3 ≤ 400 ∧ x3 < 400 := by omega
theorem la_gives_5 {x0 x1 x2 x3 : Int} (h0 : x0 ≤ 600) (h1 : 1 ≤ x1) (h2 : x1 ≤ 24) (h3 : 0 ≤ x2) (h4 : x3 = x2) (h5 : x2 + 1 < x0) : 1 ≤ x1 ∧ x1 ≤ 24 ∧ 0 ≤ x3 ∧ x3 ≤ 600 := by omega
theorem la_gives_6 {x0 x1 x2 : Int} (h0 : 0 ≤ x0) (h1 : x1 = x0) (h2 : x2 = x1 + 1) : 0 ≤ x2 := by omega
theorem la_gives_7 {x0 x1 x2 x3 : Int} (h0 : x0 = x1) (h1 : x1 + 1 < x2) (h2 : x3 = x0 + 1) : x3 < x2 := by omega
theorem la_gives_8 {x0 : Int} : ¬ ¬ x0 - 1 = x0 - 1 := by omega
theorem la_gives_9 {x0 x1 : Int} : ¬ ¬ 400 * (x0 - 1) + x1 = 400 * (x0 - 1) + x1 := by omega
theorem la_gives_10 {x0 x1 x2 : Int} (h0 : x0 = x1) (h1 : x2 = x0 + 1) : x2 = x1 + 1 := by omega
theorem la_gives_11 {x0 x1 x2 x3 : Int} (h0 : x0 = x1) (h1 : x2 = x0) (h2 : x3 = x2) : x3 = x1 := by omega
theorem la_gives_12 {x0 x1 x2 : Int} (h0 : x0 = x1) (h1 : x2 = x0) : x2 = x1 := by omega
theorem la_gives_13 {x0 x1 x2 : Int} (h0 : x0 = x1) (h1 : x2 = x1) : x0 = x2 := by omega
theorem la_gives_14 {x0 x1 x2 : Int} (h0 : x0 = x1) (h1 : x2 = x0) : x1 = x2 := by omega
theorem la_gives_15 {x0 x1 x2 x3 : Int} (h0 : x0 ≤ x1) (h1 : x2 = x1 - x0) : 400 * (x3 - 1) ≤ 400 * (x3 - 1) + x2 := by omega
theorem la_gives_16 {x0 x1 x2 x3 x4 x5 : Int} (h0 : x0 = x1 - x2 + 1) (h1 : x3 = x1 - x2) (h2 : x4 = x3 + 1) (h3 : x5 = x0) : x4 = x5 := by omega
theorem la_gives_17 {x0 : Int} : x0 ≤ x0 := by omega
theorem la_gives_18 {x0 x1 x2 x3 : Int} (h0 : 0 ≤ x0) (h1 : x1 = x2 - x0) (h2 : x3 = x1 + 1) : x3 - 1 ≤ x2 := by omega
theorem la_gives_19 {x0 x1 x2 : Int} (h0 : x0 = x1 + 1) : 400 * (x2 - 1) + (x0 - 1) ≤ 400 * (x2 - 1) + x1 := by omega
theorem la_gives_20 {x0 x1 x2 : Int} (h0 : x0 = x1 + 1) : 400 * (x2 - 1) + (x0 - 1) = 400 * (x2 - 1) + x1 := by omega
theorem la_gives_21 {x0 x1 x2 x3 x4 x5 x6 : Int} (h0 : 0 ≤ x0 → x1 = 29) (h1 : 0 ≤ x0 → x2 ≤ x3 - x4) (h2 : x5 = x3 - x4) (h3 : x6 = x5 + 1) : 0 ≤ x0 → x1 = 29 ∧ x2 ≤ x6 - 1 := by omega
theorem la_gives_22 {x0 : Int} : x0 = x0 - 1 + 1 := by omega
theorem la_gives_23 {x0 : Int} (h0 : ¬ ¬ x0 = 0) : x0 ≤ 0 := by omega
theorem la_gives_24 {x0 : Int} (h0 : x0 ≤ 0) (h1 : ¬ x0 = 0) : x0 < 0 := by omega
theorem la_gives_25 {x0 : Int} (h0 : ¬ ¬ x0 = 0) (h1 : x0 < 0) : False := by omega
theorem la_gives_26 {x0 : Int} (h0 : x0 = 1) : x0 ≤ 1 := by omega
theorem la_gives_27 {x0 : Int} (h0 : x0 ≤ 1) (h1 : ¬ x0 = 1) : x0 < 1 := by omega
theorem la_gives_28 {x0 : Int} (h0 : x0 = 1) (h1 : x0 < 1) : False := by omega
theorem la_gives_29 {x0 : Int} (h0 : 0 ≤ x0) (h1 : x0 < 0) : False := by omega
set_option maxHeartbeats 2000000 in
theorem f_gives : ∀ (p1 : Int) (S : sv_S), sm_ok S → sv_R p1 → (((S 1075 0) = 0 → (S 1073 0) = 1 → sm_PL (S 1100020) (S 51) (S 52) (S 46) (S 47) (S 1076 0) (S 1086 0) ∧ sm_FR (S 1100020) (S 52) (S 1100021) (S 1100022) (3000 - (S 1084 0)) (S 1085 0) ∧ sm_PV (S 1100020) (S 48) (S 49) (S 50) (S 44) (S 1076 0) (S 1007 0) ∧ sm_AL (S 1100020) (S 48) (S 49) (S 50) (S 44) (S 1076 0) (S 1100032 0) ∧ sm_SV (S 1100020) (S 48) (S 1100029) (S 32) (S 33) (S 1076 0) (S 1032 0) ∧ 0 ≤ (S 1076 0) ∧ (S 1076 0) ≤ 300 ∧ 0 ≤ (S 1084 0) ∧ (S 1084 0) ≤ 3000 ∧ 0 ≤ (S 1086 0) ∧ sm_SC (S 1100029) (S 44) (S 45) (S 43) (S 21) (S 1076 0) (S 1032 0) ∧ sm_PO (S 42) (S 1076 0) ∧ (S 1100032 0) = -1 ∧ sm_FO (S 44) (S 45) (S 1076 0) ∧ 23 ≤ (S 1076 0) ∧ 31 ≤ (S 1007 0) ∧ (S 1007 0) ≤ 400 ∧ sm_LN (S 4) 400 (S 1007 0) ∧ sm_CT (S 26) (S 27) (S 28) (S 29) (S 1100007) (S 1100023) (S 1100024) (S 1100025) (S 21) (S 1046 0) (S 1032 0) (S 1008 0) (S 1055 0) ∧ sm_LS (S 26) (S 1100007) (S 1100025) (S 1046 0) ∧ sm_CL (S 1100007) (S 1100023) (S 1100025) (S 1046 0) ∧ 1 ≤ (S 1032 0) ∧ (S 1032 0) ≤ 11 ∧ 0 ≤ (S 1046 0) ∧ (S 1046 0) ≤ 600 ∧ 31 ≤ (S 1008 0) ∧ (S 1008 0) ≤ (S 1007 0) ∧ 0 ≤ (S 1055 0) ∧ (S 1055 0) ≤ 19 ∧ 1 ≤ (S 1092 0) ∧ (S 1092 0) ≤ 24 ∧ 0 ≤ (S 1100033 0) ∧ (S 1100033 0) < (S 1046 0) ∧ (S 29 (S 1100033 0)) = (S 53 ((S 1092 0) - 1)) ∧ 0 ≤ (S 53 ((S 1092 0) - 1)) ∧ (S 53 ((S 1092 0) - 1)) < (S 1032 0) ∧ (S 60 ((S 1092 0) - 1)) = sm_dp (S 1100024) (S 1100023 (S 1100033 0)) ∧ sm_TC (S 61) (S 62) (S 27) (S 1100007) (S 1100023) (S 1100024) (40 * ((S 1092 0) - 1)) (S 1100023 (S 1100033 0)) ∧ sm_LK (S 1100029) (S 1076 0) (S 54 ((S 1092 0) - 1)) (S 53 ((S 1092 0) - 1)) ∧ sm_VO (S 44) (S 1076 0) (S 1007 0) ((S 55 ((S 1092 0) - 1))) ((S 56 ((S 1092 0) - 1))) ∧ sm_FW (S 44) (S 1076 0) (S 59 ((S 1092 0) - 1)) ∧ sm_FL (S 53) (S 54) (S 55) (S 56) (S 57) (S 58) (S 59) (S 60) (S 61) (S 62) (S 63) (S 64) (S 27) (S 29) (S 1100007) (S 1100023) (S 1100024) (S 1100025) (S 26) (S 1100029) (S 44) (S 1046 0) (S 1032 0) (S 1076 0) (S 1007 0) (((S 1092 0) - 1)) ∧ (S 57 ((S 1092 0) - 1)) = (S 1100033 0) ∧ 0 ≤ (S 58 ((S 1092 0) - 1)) ∧ (S 58 ((S 1092 0) - 1)) ≤ 400 ∧ sm_SK (S 63) (S 64) (S 44) (S 1100007) (S 1100025) (S 1076 0) (S 1007 0) (400 * ((S 1092 0) - 1)) ((S 58 ((S 1092 0) - 1))) ((S 1100034 0)) ∧ -1 ≤ (S 1100034 0) ∧ (S 1100034 0) < (S 1046 0) ∧ (0 ≤ (S 1100034 0) → (S 26 (S 1100034 0)) = 29) ∧ 0 ≤ p1 ∧ p1 ≤ (S 58 ((S 1092 0) - 1)) ∧ (S 58 ((S 1092 0) - 1)) - p1 ≤ 399 ∧ sm_VO (S 44) (S 1076 0) (S 1007 0) ((S 1111 0)) ((S 1112 0)) ∧ (0 ≤ (S 1100034 0) → (S 1100007 (S 1100034 0)) ≤ (S 58 ((S 1092 0) - 1)) - p1) ∧ (S 1100033 0) + 1 < (S 1046 0) ∧ (S 29 ((S 1100033 0) + 1)) = (S 29 (S 1100033 0)) ∧ (S 1100007 ((S 1100033 0) + 1)) = (S 58 ((S 1092 0) - 1)) - p1 + 1 ∧ (S 1100023 ((S 1100033 0) + 1)) = (S 1100023 (S 1100033 0)) ∧ (S 1100025 ((S 1100033 0) + 1)) = (S 1100034 0)) ∧ (¬ (S 1075 0) = 0 → sm_LX (S 58) (S 63) (S 64) (S 1092 0) (S 1076 0))) → ((0 ≤ (S 1075 0) ∧ (S 1075 0) ≤ 1) → (((¬ (S 1075 0) = (0 : Int)) → (((S 1075 0) = 0 → (S 1073 0) = 1 → 1 ≤ (S 1092 0) ∧ (S 1092 0) ≤ 24 ∧ 0 ≤ (S 57 ((S 1092 0) - 1)) ∧ (S 57 ((S 1092 0) - 1)) < (S 1046 0) ∧ (S 29 (S 57 ((S 1092 0) - 1))) = (S 53 ((S 1092 0) - 1)) ∧ 0 ≤ (S 53 ((S 1092 0) - 1)) ∧ (S 53 ((S 1092 0) - 1)) < (S 1032 0) ∧ (S 60 ((S 1092 0) - 1)) = sm_dp (S 1100024) (S 1100023 (S 57 ((S 1092 0) - 1))) ∧ sm_TC (S 61) (S 62) (S 27) (S 1100007) (S 1100023) (S 1100024) (40 * ((S 1092 0) - 1)) (S 1100023 (S 57 ((S 1092 0) - 1))) ∧ sm_LK (S 1100029) (S 1076 0) (S 54 ((S 1092 0) - 1)) (S 53 ((S 1092 0) - 1)) ∧ sm_VO (S 44) (S 1076 0) (S 1007 0) ((S 55 ((S 1092 0) - 1))) ((S 56 ((S 1092 0) - 1))) ∧ sm_FW (S 44) (S 1076 0) (S 59 ((S 1092 0) - 1)) ∧ sm_FL (S 53) (S 54) (S 55) (S 56) (S 57) (S 58) (S 59) (S 60) (S 61) (S 62) (S 63) (S 64) (S 27) (S 29) (S 1100007) (S 1100023) (S 1100024) (S 1100025) (S 26) (S 1100029) (S 44) (S 1046 0) (S 1032 0) (S 1076 0) (S 1007 0) (((S 1092 0) - 1)) ∧ (S 58 ((S 1092 0) - 1)) = (S 1100007 (S 57 ((S 1092 0) - 1))) ∧ sm_SK (S 63) (S 64) (S 44) (S 1100007) (S 1100025) (S 1076 0) (S 1007 0) (400 * ((S 1092 0) - 1)) ((S 58 ((S 1092 0) - 1))) ((S 1100025 (S 57 ((S 1092 0) - 1))))) ∧ (¬ (S 1075 0) = 0 → sm_LX (S 58) (S 63) (S 64) (S 1092 0) (S 1076 0)))) ∧ ((¬ (¬ (S 1075 0) = (0 : Int))) → (sv_R (S 1073 0) → ((((S 1073 0) = (1 : Int)) → (1 ≤ (S 1092 0) ∧ (S 1092 0) ≤ 24 ∧ 0 ≤ (S 58 ((S 1092 0) - 1)) ∧ (S 58 ((S 1092 0) - 1)) ≤ 400 ∧ 0 ≤ p1 ∧ p1 ≤ (S 58 ((S 1092 0) - 1))) ∧ (∀ g4 : sv_S, ((g4 58 ((S 1092 0) - 1)) = (S 58 ((S 1092 0) - 1)) - p1 ∧ (∀ k : Int, ¬ k = (S 1092 0) - 1 → (g4 58 k) = (S 58 k))) → (sv_R (S 1111 0) → (sv_R (S 1112 0) → (1 ≤ (S 1092 0) ∧ (S 1092 0) ≤ 24 ∧ 0 ≤ (g4 58 ((S 1092 0) - 1)) ∧ (g4 58 ((S 1092 0) - 1)) ≤ 400 ∧ (g4 58 ((S 1092 0) - 1)) < 400) ∧ (∀ g12 : sv_S, ((g12 58 ((S 1092 0) - 1)) = (g4 58 ((S 1092 0) - 1)) + 1 ∧ (g12 63 (400 * ((S 1092 0) - 1) + (g4 58 ((S 1092 0) - 1)))) = (S 1111 0) ∧ (g12 64 (400 * ((S 1092 0) - 1) + (g4 58 ((S 1092 0) - 1)))) = (S 1112 0) ∧ (∀ k : Int, ¬ k = (S 1092 0) - 1 → (g12 58 k) = (g4 58 k)) ∧ (∀ k : Int, ¬ k = (400 * ((S 1092 0) - 1) + (g4 58 ((S 1092 0) - 1))) → (g12 63 k) = (S 63 k)) ∧ (∀ k : Int, ¬ k = (400 * ((S 1092 0) - 1) + (g4 58 ((S 1092 0) - 1))) → (g12 64 k) = (S 64 k))) → (1 ≤ (S 1092 0) ∧ (S 1092 0) ≤ 24 ∧ 0 ≤ (S 57 ((S 1092 0) - 1)) ∧ (S 57 ((S 1092 0) - 1)) ≤ 600) ∧ (∀ g18 : sv_S, ((g18 57 ((S 1092 0) - 1)) = (S 57 ((S 1092 0) - 1)) + 1 ∧ (∀ k : Int, ¬ k = (S 1092 0) - 1 → (g18 57 k) = (S 57 k))) → (((S 1075 0) = 0 → (S 1073 0) = 1 → 1 ≤ (S 1092 0) ∧ (S 1092 0) ≤ 24 ∧ 0 ≤ (g18 57 ((S 1092 0) - 1)) ∧ (g18 57 ((S 1092 0) - 1)) < (S 1046 0) ∧ (S 29 (g18 57 ((S 1092 0) - 1))) = (S 53 ((S 1092 0) - 1)) ∧ 0 ≤ (S 53 ((S 1092 0) - 1)) ∧ (S 53 ((S 1092 0) - 1)) < (S 1032 0) ∧ (S 60 ((S 1092 0) - 1)) = sm_dp (S 1100024) (S 1100023 (g18 57 ((S 1092 0) - 1))) ∧ sm_TC (S 61) (S 62) (S 27) (S 1100007) (S 1100023) (S 1100024) (40 * ((S 1092 0) - 1)) (S 1100023 (g18 57 ((S 1092 0) - 1))) ∧ sm_LK (S 1100029) (S 1076 0) (S 54 ((S 1092 0) - 1)) (S 53 ((S 1092 0) - 1)) ∧ sm_VO (S 44) (S 1076 0) (S 1007 0) ((S 55 ((S 1092 0) - 1))) ((S 56 ((S 1092 0) - 1))) ∧ sm_FW (S 44) (S 1076 0) (S 59 ((S 1092 0) - 1)) ∧ sm_FL (S 53) (S 54) (S 55) (S 56) (g18 57) (g12 58) (S 59) (S 60) (S 61) (S 62) (g12 63) (g12 64) (S 27) (S 29) (S 1100007) (S 1100023) (S 1100024) (S 1100025) (S 26) (S 1100029) (S 44) (S 1046 0) (S 1032 0) (S 1076 0) (S 1007 0) (((S 1092 0) - 1)) ∧ (g12 58 ((S 1092 0) - 1)) = (S 1100007 (g18 57 ((S 1092 0) - 1))) ∧ sm_SK (g12 63) (g12 64) (S 44) (S 1100007) (S 1100025) (S 1076 0) (S 1007 0) (400 * ((S 1092 0) - 1)) ((g12 58 ((S 1092 0) - 1))) ((S 1100025 (g18 57 ((S 1092 0) - 1))))) ∧ (¬ (S 1075 0) = 0 → sm_LX (g12 58) (g12 63) (g12 64) (S 1092 0) (S 1076 0))))))))) ∧ ((¬ ((S 1073 0) = (1 : Int))) → (((S 1075 0) = 0 → (S 1073 0) = 1 → 1 ≤ (S 1092 0) ∧ (S 1092 0) ≤ 24 ∧ 0 ≤ (S 57 ((S 1092 0) - 1)) ∧ (S 57 ((S 1092 0) - 1)) < (S 1046 0) ∧ (S 29 (S 57 ((S 1092 0) - 1))) = (S 53 ((S 1092 0) - 1)) ∧ 0 ≤ (S 53 ((S 1092 0) - 1)) ∧ (S 53 ((S 1092 0) - 1)) < (S 1032 0) ∧ (S 60 ((S 1092 0) - 1)) = sm_dp (S 1100024) (S 1100023 (S 57 ((S 1092 0) - 1))) ∧ sm_TC (S 61) (S 62) (S 27) (S 1100007) (S 1100023) (S 1100024) (40 * ((S 1092 0) - 1)) (S 1100023 (S 57 ((S 1092 0) - 1))) ∧ sm_LK (S 1100029) (S 1076 0) (S 54 ((S 1092 0) - 1)) (S 53 ((S 1092 0) - 1)) ∧ sm_VO (S 44) (S 1076 0) (S 1007 0) ((S 55 ((S 1092 0) - 1))) ((S 56 ((S 1092 0) - 1))) ∧ sm_FW (S 44) (S 1076 0) (S 59 ((S 1092 0) - 1)) ∧ sm_FL (S 53) (S 54) (S 55) (S 56) (S 57) (S 58) (S 59) (S 60) (S 61) (S 62) (S 63) (S 64) (S 27) (S 29) (S 1100007) (S 1100023) (S 1100024) (S 1100025) (S 26) (S 1100029) (S 44) (S 1046 0) (S 1032 0) (S 1076 0) (S 1007 0) (((S 1092 0) - 1)) ∧ (S 58 ((S 1092 0) - 1)) = (S 1100007 (S 57 ((S 1092 0) - 1))) ∧ sm_SK (S 63) (S 64) (S 44) (S 1100007) (S 1100025) (S 1076 0) (S 1007 0) (400 * ((S 1092 0) - 1)) ((S 58 ((S 1092 0) - 1))) ((S 1100025 (S 57 ((S 1092 0) - 1))))) ∧ (¬ (S 1075 0) = 0 → sm_LX (S 58) (S 63) (S 64) (S 1092 0) (S 1076 0))))))))) := by
  intro p1
  intro S
  intro h1_
  intro h2_
  rintro ⟨h3_, h4_⟩
  rintro ⟨h5_, h6_⟩
  refine ⟨?_, ?_⟩
  · skip
    intro h7_
    have h8_ := (h4_ h7_)
    refine ⟨?_, ?_⟩
    · skip
      intro h9_
      intro h10_
      refine ⟨?_, ?_⟩
      · skip
        exact ((la_gives_1 (la_gives_0 h5_ h7_) h9_)).elim
      refine ⟨?_, ?_⟩
      · skip
        exact ((la_gives_1 (la_gives_0 h5_ h7_) h9_)).elim
      refine ⟨?_, ?_⟩
      · skip
        exact ((la_gives_1 (la_gives_0 h5_ h7_) h9_)).elim
      refine ⟨?_, ?_⟩
      · skip
        exact ((la_gives_1 (la_gives_0 h5_ h7_) h9_)).elim
      refine ⟨?_, ?_⟩
      · skip
        exact ((la_gives_1 (la_gives_0 h5_ h7_) h9_)).elim
      refine ⟨?_, ?_⟩
      · skip
        exact ((la_gives_1 (la_gives_0 h5_ h7_) h9_)).elim
      refine ⟨?_, ?_⟩
      · skip
        exact ((la_gives_1 (la_gives_0 h5_ h7_) h9_)).elim
      refine ⟨?_, ?_⟩
      · skip
        exact ((la_gives_1 (la_gives_0 h5_ h7_) h9_)).elim
      refine ⟨?_, ?_⟩
      · skip
        exact ((la_gives_1 (la_gives_0 h5_ h7_) h9_)).elim
      refine ⟨?_, ?_⟩
      · skip
        exact ((la_gives_1 (la_gives_0 h5_ h7_) h9_)).elim
      refine ⟨?_, ?_⟩
      · skip
        exact ((la_gives_1 (la_gives_0 h5_ h7_) h9_)).elim
      refine ⟨?_, ?_⟩
      · skip
        exact ((la_gives_1 (la_gives_0 h5_ h7_) h9_)).elim
      refine ⟨?_, ?_⟩
      · skip
        exact ((la_gives_1 (la_gives_0 h5_ h7_) h9_)).elim
      refine ⟨?_, ?_⟩
      · skip
        exact ((la_gives_1 (la_gives_0 h5_ h7_) h9_)).elim
      exact ((la_gives_1 (la_gives_0 h5_ h7_) h9_)).elim
    intro h11_
    exact h8_
  intro h12_
  have h13_ := (h3_ (la_gives_2 h5_ h12_))
  intro h14_
  refine ⟨?_, ?_⟩
  · skip
    intro h15_
    obtain ⟨h16_, ⟨h17_, ⟨h18_, ⟨h19_, ⟨h20_, ⟨h21_, ⟨h22_, ⟨h23_, ⟨h24_, ⟨h25_, ⟨h26_, ⟨h27_, ⟨h28_, ⟨h29_, ⟨h30_, ⟨h31_, ⟨h32_, ⟨h33_, ⟨h34_, ⟨h35_, ⟨h36_, ⟨h37_, ⟨h38_, ⟨h39_, ⟨h40_, ⟨h41_, ⟨h42_, ⟨h43_, ⟨h44_, ⟨h45_, ⟨h46_, ⟨h47_, ⟨h48_, ⟨h49_, ⟨h50_, ⟨h51_, ⟨h52_, ⟨h53_, ⟨h54_, ⟨h55_, ⟨h56_, ⟨h57_, ⟨h58_, ⟨h59_, ⟨h60_, ⟨h61_, ⟨h62_, ⟨h63_, ⟨h64_, ⟨h65_, ⟨h66_, ⟨h67_, ⟨h68_, ⟨h69_, ⟨h70_, ⟨h71_, ⟨h72_, ⟨h73_, h74_⟩⟩⟩⟩⟩⟩⟩⟩⟩⟩⟩⟩⟩⟩⟩⟩⟩⟩⟩⟩⟩⟩⟩⟩⟩⟩⟩⟩⟩⟩⟩⟩⟩⟩⟩⟩⟩⟩⟩⟩⟩⟩⟩⟩⟩⟩⟩⟩⟩⟩⟩⟩⟩⟩⟩⟩⟩⟩ := (h13_ h15_)
    refine ⟨(la_gives_3 h45_ h46_ h59_ h60_ h65_ h66_), ?_⟩
    intro g4
    rintro ⟨h75_, h76_⟩
    intro h77_
    intro h78_
    refine ⟨(la_gives_4 h45_ h46_ h66_ h67_ h75_), ?_⟩
    intro g12
    rintro ⟨h79_, ⟨h80_, ⟨h81_, ⟨h82_, ⟨h83_, h84_⟩⟩⟩⟩⟩
    refine ⟨(la_gives_5 h40_ h45_ h46_ h47_ h58_ h70_), ?_⟩
    intro g18
    rintro ⟨h85_, h86_⟩
    refine ⟨?_, ?_⟩
    · skip
      intro h87_
      intro h88_
      refine ⟨h45_, ?_⟩
      refine ⟨h46_, ?_⟩
      refine ⟨(la_gives_6 h47_ h58_ h85_), ?_⟩
      refine ⟨(la_gives_7 h58_ h70_ h85_), ?_⟩
      refine ⟨?_, ?_⟩
      · skip
        have h89_ := (h76_ (S 1092 0 - 1))
        have h90_ := (h82_ (S 1092 0 - 1))
        have h91_ := (h83_ (400 * (S 1092 0 - 1) + g4 58 (S 1092 0 - 1)))
        have h92_ := (h84_ (400 * (S 1092 0 - 1) + g4 58 (S 1092 0 - 1)))
        have h93_ := (h86_ (S 1092 0 - 1))
        have e94_ : S 29 (g18 57 (S 1092 0 - 1)) = S 29 (S 1100033 0 + 1) := congrArg ((S 29)) (la_gives_10 h58_ h85_)
        exact (la_gives_11 h49_ h71_ e94_)
      refine ⟨h50_, ?_⟩
      refine ⟨h51_, ?_⟩
      refine ⟨?_, ?_⟩
      · skip
        have h95_ := (h76_ (S 1092 0 - 1))
        have h96_ := (h82_ (S 1092 0 - 1))
        have h97_ := (h83_ (400 * (S 1092 0 - 1) + g4 58 (S 1092 0 - 1)))
        have h98_ := (h84_ (400 * (S 1092 0 - 1) + g4 58 (S 1092 0 - 1)))
        have h99_ := (h86_ (S 1092 0 - 1))
        have e100_ : S 1100023 (g18 57 (S 1092 0 - 1)) = S 1100023 (S 1100033 0 + 1) := congrArg ((S 1100023)) (la_gives_10 h58_ h85_)
        have e101_ : sm_dp (S 1100024) (S 1100023 (g18 57 (S 1092 0 - 1))) = sm_dp (S 1100024) (S 1100023 (S 1100033 0)) := congrArg ((sm_dp (S 1100024))) (la_gives_12 h73_ e100_)
        exact (la_gives_13 h52_ e101_)
      refine ⟨?_, ?_⟩
      · skip
        have h102_ := (h76_ (S 1092 0 - 1))
        have h103_ := (h82_ (S 1092 0 - 1))
        have h104_ := (h83_ (400 * (S 1092 0 - 1) + g4 58 (S 1092 0 - 1)))
        have h105_ := (h84_ (400 * (S 1092 0 - 1) + g4 58 (S 1092 0 - 1)))
        have h106_ := (h86_ (S 1092 0 - 1))
        have e107_ : S 1100023 (g18 57 (S 1092 0 - 1)) = S 1100023 (S 1100033 0 + 1) := congrArg ((S 1100023)) (la_gives_10 h58_ h85_)
        exact (sm_TC_t h53_ (la_gives_14 h73_ e107_))
      refine ⟨h54_, ?_⟩
      refine ⟨h55_, ?_⟩
      refine ⟨h56_, ?_⟩
      refine ⟨(sm_FL_F h57_ sm_F1_rf sm_F1_rf sm_F1_rf sm_F1_rf (sm_F1_le (sm_F1_ne h86_ (Int.le_refl _)) (Int.le_refl _)) (sm_F1_tr (sm_F1_le (sm_F1_ne h76_ (Int.le_refl _)) (Int.le_refl _)) (sm_F1_ne h82_ (Int.le_refl _)) (Int.le_refl _)) sm_F1_rf sm_F1_rf sm_F1_rf sm_F1_rf (sm_F1_le (sm_F1_ne h83_ (Int.le_refl _)) (la_gives_15 h66_ h75_)) (sm_F1_le (sm_F1_ne h84_ (Int.le_refl _)) (la_gives_15 h66_ h75_)) (Int.le_refl _) (Int.le_refl _) sm_F1_rf sm_F1_rf (sm_FL_dp h57_ h34_)), ?_⟩
      refine ⟨?_, ?_⟩
      · skip
        have h108_ := (h76_ (S 1092 0 - 1))
        have h109_ := (h82_ (S 1092 0 - 1))
        have h110_ := (h83_ (400 * (S 1092 0 - 1) + g4 58 (S 1092 0 - 1)))
        have h111_ := (h84_ (400 * (S 1092 0 - 1) + g4 58 (S 1092 0 - 1)))
        have h112_ := (h86_ (S 1092 0 - 1))
        have e113_ : S 1100007 (g18 57 (S 1092 0 - 1)) = S 1100007 (S 1100033 0 + 1) := congrArg ((S 1100007)) (la_gives_10 h58_ h85_)
        exact (la_gives_16 h72_ h75_ h79_ e113_)
      have h114_ := (h76_ (S 1092 0 - 1))
      have h115_ := (h82_ (S 1092 0 - 1))
      have h116_ := (h83_ (400 * (S 1092 0 - 1) + g4 58 (S 1092 0 - 1)))
      have h117_ := (h84_ (400 * (S 1092 0 - 1) + g4 58 (S 1092 0 - 1)))
      have h118_ := (h86_ (S 1092 0 - 1))
      have e119_ : S 1100025 (g18 57 (S 1092 0 - 1)) = S 1100025 (S 1100033 0 + 1) := congrArg ((S 1100025)) (la_gives_10 h58_ h85_)
      exact (sm_SK_q (sm_SK_q (sm_SK_push (sm_SK_F (sm_SK_pop h61_ (la_gives_18 h65_ h75_ h79_)) (sm_F1_le (sm_F1_ne h83_ (Int.le_refl _)) (la_gives_19 h79_)) (sm_F1_le (sm_F1_ne h84_ (Int.le_refl _)) (la_gives_19 h79_)) (Int.le_refl _) (Int.le_refl _)) h35_ h63_ (la_gives_21 h64_ h69_ h75_ h79_) rfl (sm_VO_eq h68_ ((congrArg (g12 63) (la_gives_20 h79_)).trans h80_) ((congrArg (g12 64) (la_gives_20 h79_)).trans h81_)) rfl) rfl la_gives_22 rfl) (la_gives_12 h74_ e119_) rfl rfl)
    intro h120_
    have h121_ := (h76_ (S 1092 0 - 1))
    have h122_ := (h82_ (S 1092 0 - 1))
    have h123_ := (h83_ (400 * (S 1092 0 - 1) + g4 58 (S 1092 0 - 1)))
    have h124_ := (h84_ (400 * (S 1092 0 - 1) + g4 58 (S 1092 0 - 1)))
    have h125_ := (h86_ (S 1092 0 - 1))
    exact ((la_gives_25 h12_ (la_gives_24 (la_gives_23 h12_) h120_))).elim
  intro h126_
  refine ⟨?_, ?_⟩
  · skip
    intro h127_
    intro h128_
    refine ⟨?_, ?_⟩
    · skip
      exact ((la_gives_28 h128_ (la_gives_27 (la_gives_26 h128_) h126_))).elim
    refine ⟨?_, ?_⟩
    · skip
      exact ((la_gives_28 h128_ (la_gives_27 (la_gives_26 h128_) h126_))).elim
    refine ⟨?_, ?_⟩
    · skip
      exact ((la_gives_28 h128_ (la_gives_27 (la_gives_26 h128_) h126_))).elim
    refine ⟨?_, ?_⟩
    · skip
      exact ((la_gives_28 h128_ (la_gives_27 (la_gives_26 h128_) h126_))).elim
    refine ⟨?_, ?_⟩
    · skip
      exact ((la_gives_28 h128_ (la_gives_27 (la_gives_26 h128_) h126_))).elim
    refine ⟨?_, ?_⟩
    · skip
      exact ((la_gives_28 h128_ (la_gives_27 (la_gives_26 h128_) h126_))).elim
    refine ⟨?_, ?_⟩
    · skip
      exact ((la_gives_28 h128_ (la_gives_27 (la_gives_26 h128_) h126_))).elim
    refine ⟨?_, ?_⟩
    · skip
      exact ((la_gives_28 h128_ (la_gives_27 (la_gives_26 h128_) h126_))).elim
    refine ⟨?_, ?_⟩
    · skip
      exact ((la_gives_28 h128_ (la_gives_27 (la_gives_26 h128_) h126_))).elim
    refine ⟨?_, ?_⟩
    · skip
      exact ((la_gives_28 h128_ (la_gives_27 (la_gives_26 h128_) h126_))).elim
    refine ⟨?_, ?_⟩
    · skip
      exact ((la_gives_28 h128_ (la_gives_27 (la_gives_26 h128_) h126_))).elim
    refine ⟨?_, ?_⟩
    · skip
      exact ((la_gives_28 h128_ (la_gives_27 (la_gives_26 h128_) h126_))).elim
    refine ⟨?_, ?_⟩
    · skip
      exact ((la_gives_28 h128_ (la_gives_27 (la_gives_26 h128_) h126_))).elim
    refine ⟨?_, ?_⟩
    · skip
      exact ((la_gives_28 h128_ (la_gives_27 (la_gives_26 h128_) h126_))).elim
    exact ((la_gives_28 h128_ (la_gives_27 (la_gives_26 h128_) h126_))).elim
  intro h129_
  exact ((la_gives_29 h5_ (la_gives_24 (la_gives_23 h12_) h129_))).elim
set_option maxRecDepth 8000 in
set_option maxHeartbeats 2000000 in
theorem t_gives : ∀ (p1 : Int) (S : sv_S), sm_ok S → sv_R p1 → (((S 1075 0) = 0 → (S 1073 0) = 1 → sm_PL (S 1100020) (S 51) (S 52) (S 46) (S 47) (S 1076 0) (S 1086 0) ∧ sm_FR (S 1100020) (S 52) (S 1100021) (S 1100022) (3000 - (S 1084 0)) (S 1085 0) ∧ sm_PV (S 1100020) (S 48) (S 49) (S 50) (S 44) (S 1076 0) (S 1007 0) ∧ sm_AL (S 1100020) (S 48) (S 49) (S 50) (S 44) (S 1076 0) (S 1100032 0) ∧ sm_SV (S 1100020) (S 48) (S 1100029) (S 32) (S 33) (S 1076 0) (S 1032 0) ∧ 0 ≤ (S 1076 0) ∧ (S 1076 0) ≤ 300 ∧ 0 ≤ (S 1084 0) ∧ (S 1084 0) ≤ 3000 ∧ 0 ≤ (S 1086 0) ∧ sm_SC (S 1100029) (S 44) (S 45) (S 43) (S 21) (S 1076 0) (S 1032 0) ∧ sm_PO (S 42) (S 1076 0) ∧ (S 1100032 0) = -1 ∧ sm_FO (S 44) (S 45) (S 1076 0) ∧ 23 ≤ (S 1076 0) ∧ 31 ≤ (S 1007 0) ∧ (S 1007 0) ≤ 400 ∧ sm_LN (S 4) 400 (S 1007 0) ∧ sm_CT (S 26) (S 27) (S 28) (S 29) (S 1100007) (S 1100023) (S 1100024) (S 1100025) (S 21) (S 1046 0) (S 1032 0) (S 1008 0) (S 1055 0) ∧ sm_LS (S 26) (S 1100007) (S 1100025) (S 1046 0) ∧ sm_CL (S 1100007) (S 1100023) (S 1100025) (S 1046 0) ∧ 1 ≤ (S 1032 0) ∧ (S 1032 0) ≤ 11 ∧ 0 ≤ (S 1046 0) ∧ (S 1046 0) ≤ 600 ∧ 31 ≤ (S 1008 0) ∧ (S 1008 0) ≤ (S 1007 0) ∧ 0 ≤ (S 1055 0) ∧ (S 1055 0) ≤ 19 ∧ 1 ≤ (S 1092 0) ∧ (S 1092 0) ≤ 24 ∧ 0 ≤ (S 1100033 0) ∧ (S 1100033 0) < (S 1046 0) ∧ (S 29 (S 1100033 0)) = (S 53 ((S 1092 0) - 1)) ∧ 0 ≤ (S 53 ((S 1092 0) - 1)) ∧ (S 53 ((S 1092 0) - 1)) < (S 1032 0) ∧ (S 60 ((S 1092 0) - 1)) = sm_dp (S 1100024) (S 1100023 (S 1100033 0)) ∧ sm_TC (S 61) (S 62) (S 27) (S 1100007) (S 1100023) (S 1100024) (40 * ((S 1092 0) - 1)) (S 1100023 (S 1100033 0)) ∧ sm_LK (S 1100029) (S 1076 0) (S 54 ((S 1092 0) - 1)) (S 53 ((S 1092 0) - 1)) ∧ sm_VO (S 44) (S 1076 0) (S 1007 0) ((S 55 ((S 1092 0) - 1))) ((S 56 ((S 1092 0) - 1))) ∧ sm_FW (S 44) (S 1076 0) (S 59 ((S 1092 0) - 1)) ∧ sm_FL (S 53) (S 54) (S 55) (S 56) (S 57) (S 58) (S 59) (S 60) (S 61) (S 62) (S 63) (S 64) (S 27) (S 29) (S 1100007) (S 1100023) (S 1100024) (S 1100025) (S 26) (S 1100029) (S 44) (S 1046 0) (S 1032 0) (S 1076 0) (S 1007 0) (((S 1092 0) - 1)) ∧ (S 57 ((S 1092 0) - 1)) = (S 1100033 0) ∧ 0 ≤ (S 58 ((S 1092 0) - 1)) ∧ (S 58 ((S 1092 0) - 1)) ≤ 400 ∧ sm_SK (S 63) (S 64) (S 44) (S 1100007) (S 1100025) (S 1076 0) (S 1007 0) (400 * ((S 1092 0) - 1)) ((S 58 ((S 1092 0) - 1))) ((S 1100034 0)) ∧ -1 ≤ (S 1100034 0) ∧ (S 1100034 0) < (S 1046 0) ∧ (0 ≤ (S 1100034 0) → (S 26 (S 1100034 0)) = 29) ∧ 0 ≤ p1 ∧ p1 ≤ (S 58 ((S 1092 0) - 1)) ∧ (S 58 ((S 1092 0) - 1)) - p1 ≤ 399 ∧ sm_VO (S 44) (S 1076 0) (S 1007 0) ((S 1111 0)) ((S 1112 0)) ∧ (0 ≤ (S 1100034 0) → (S 1100007 (S 1100034 0)) ≤ (S 58 ((S 1092 0) - 1)) - p1) ∧ (S 1100033 0) + 1 < (S 1046 0) ∧ (S 29 ((S 1100033 0) + 1)) = (S 29 (S 1100033 0)) ∧ (S 1100007 ((S 1100033 0) + 1)) = (S 58 ((S 1092 0) - 1)) - p1 + 1 ∧ (S 1100023 ((S 1100033 0) + 1)) = (S 1100023 (S 1100033 0)) ∧ (S 1100025 ((S 1100033 0) + 1)) = (S 1100034 0)) ∧ (¬ (S 1075 0) = 0 → sm_LX (S 58) (S 63) (S 64) (S 1092 0) (S 1076 0))) → sv_T sm_XS sm_cs sm_L sm_sh 2 (q_gives p1 S) 155 0 (lv_args 0 [.ref 0, sv_I p1]) [] S := by
  intro p1 S hok hp1 hpre
  have h := f_gives p1 S hok hp1 hpre
  have hM := sm_h155
  show sv_T sm_XS sm_cs sm_L sm_sh 2 (q_gives p1 S) 155 0 [(0, .ref 0), (1, sv_I p1)] [] S
  refine sv_aload_n hM dX12_gives_0 rfl rfl ?_
  have k1 : (0 ≤ (S 1075 0) ∧ (S 1075 0) ≤ 1) := sm_okZ hok sm_r1075 0
  have h := h k1
  refine sv_getI hM dX12_gives_1 sm_fl_794 (sm_a0 _) sm_k75 rfl (x := (S 1075 0)) rfl ?_
  refine sv_cond_ne hM dX12_gives_4 (sv_R01 k1) (t := 15) rfl rfl (fun hc => ?_) (fun hc => ?_)
  · have h := h.1 (hc)
    exact sv_vret hM dX12_gives_15 rfl ⟨rfl, hok, sv_mod.rf, h⟩
  · have h := h.2 (hc)
    refine sv_aload_n hM dX12_gives_7 rfl rfl ?_
    have k2 : sv_R (S 1073 0) := sm_okI hok sm_r1073 0
    have h := h k2
    refine sv_getI hM dX12_gives_8 sm_fl_773 (sm_a0 _) sm_k73 rfl (x := (S 1073 0)) rfl ?_
    refine sv_iconst (d := (1 : Int)) hM dX12_gives_11 rfl rfl ?_
    refine sv_icmp_eq hM dX12_gives_12 k2 (⟨by decide, by decide⟩ : sv_R (1 : Int)) (t := 16) rfl rfl (fun hc => ?_) (fun hc => ?_)
    · have h := h.1 (hc)
      refine sv_aload_n hM dX12_gives_16 rfl rfl ?_
      refine sv_iload_n hM dX12_gives_17 rfl rfl ?_
      obtain ⟨o3, h⟩ := h
      refine sv_callV hM dX12_gives_18 sm_iv_882 (by decide) (sm_a0 _) rfl rfl (Nat.le_of_ble_eq_true rfl) sm_h153 (Nat.le_of_ble_eq_true rfl) (Nat.le_of_ble_eq_true rfl) (F' := 0) (Nat.le_of_ble_eq_true rfl) rfl (t_drop p1 S hok hp1 o3) (fun v S1 hq => ?_)
      obtain ⟨rfl, ok5, md6, hpo7⟩ := hq
      obtain ⟨g4, rfl⟩ : ∃ g, S1 = sv_sts S [58] g := ⟨_, md6.eq⟩
      show sv_T sm_XS sm_cs sm_L sm_sh 2 (q_gives p1 S) 155 21 [(0, .ref 0), (1, sv_I p1)] [] (sv_sts S [58] g4)
      have md8 : sv_mod [58, 63, 64, 57] S (sv_sts S [58] g4) := sv_mod.sts sv_mod.rf (by decide)
      have h := h g4 hpo7
      refine sv_aload_n hM dX12_gives_21 rfl rfl ?_
      refine sv_aload_n hM dX12_gives_22 rfl rfl ?_
      have k9 : sv_R (S 1111 0) := sm_okI ok5 sm_r1111 0
      have h := h k9
      refine sv_getI hM dX12_gives_23 sm_fl_788 (sm_a0 _) sm_k111 rfl (x := (S 1111 0)) rfl ?_
      refine sv_aload_n hM dX12_gives_26 rfl rfl ?_
      have k10 : sv_R (S 1112 0) := sm_okI ok5 sm_r1112 0
      have h := h k10
      refine sv_getI hM dX12_gives_27 sm_fl_791 (sm_a0 _) sm_k112 rfl (x := (S 1112 0)) rfl ?_
      obtain ⟨o11, h⟩ := h
      refine sv_callV hM dX12_gives_30 sm_iv_885 (by decide) (sm_a0 _) rfl rfl (Nat.le_of_ble_eq_true rfl) sm_h152 (Nat.le_of_ble_eq_true rfl) (Nat.le_of_ble_eq_true rfl) (F' := 1) (Nat.le_of_ble_eq_true rfl) rfl (t_push (S 1111 0) (S 1112 0) (sv_sts S [58] g4) ok5 k9 k10 o11) (fun v S1 hq => ?_)
      obtain ⟨rfl, ok13, md14, hpo15⟩ := hq
      obtain ⟨g12, rfl⟩ : ∃ g, S1 = sv_sts (sv_sts S [58] g4) [63, 64, 58] g := ⟨_, md14.eq⟩
      show sv_T sm_XS sm_cs sm_L sm_sh 2 (q_gives p1 S) 155 33 [(0, .ref 0), (1, sv_I p1)] [] (sv_sts (sv_sts S [58] g4) [63, 64, 58] g12)
      have md16 : sv_mod [58, 63, 64, 57] S (sv_sts (sv_sts S [58] g4) [63, 64, 58] g12) := sv_mod.sts md8 (by decide)
      have h := h g12 hpo15
      refine sv_aload_n hM dX12_gives_33 rfl rfl ?_
      obtain ⟨o17, h⟩ := h
      refine sv_callV hM dX12_gives_34 sm_iv_888 (by decide) (sm_a0 _) rfl rfl (Nat.le_of_ble_eq_true rfl) sm_h154 (Nat.le_of_ble_eq_true rfl) (Nat.le_of_ble_eq_true rfl) (F' := 0) (Nat.le_of_ble_eq_true rfl) rfl (t_goOn  (sv_sts (sv_sts S [58] g4) [63, 64, 58] g12) ok13 o17) (fun v S1 hq => ?_)
      obtain ⟨rfl, ok19, md20, hpo21⟩ := hq
      obtain ⟨g18, rfl⟩ : ∃ g, S1 = sv_sts (sv_sts (sv_sts S [58] g4) [63, 64, 58] g12) [57] g := ⟨_, md20.eq⟩
      show sv_T sm_XS sm_cs sm_L sm_sh 2 (q_gives p1 S) 155 37 [(0, .ref 0), (1, sv_I p1)] [] (sv_sts (sv_sts (sv_sts S [58] g4) [63, 64, 58] g12) [57] g18)
      have md22 : sv_mod [58, 63, 64, 57] S (sv_sts (sv_sts (sv_sts S [58] g4) [63, 64, 58] g12) [57] g18) := sv_mod.sts md16 (by decide)
      have h := h g18 hpo21
      exact sv_vret hM dX12_gives_37 rfl ⟨rfl, ok19, md22, h⟩
    · have h := h.2 (hc)
      exact sv_vret hM dX12_gives_15 rfl ⟨rfl, hok, sv_mod.rf, h⟩
def q_toss_ (p1 : Int) (p2 : Int) (S : sv_S) : Option Value → sv_S → Prop := fun v S' => v = none ∧ sm_ok S' ∧ sv_mod [1092, 60, 58, 57, 63, 64, 1073, 1109, 1110] S S' ∧ ((¬ (S' 1075 0) = 0 → sm_LX (S' 58) (S' 63) (S' 64) (S' 1092 0) (S' 1076 0)) ∧ ((S' 1075 0) = 0 → (S' 1073 0) = 1 → (S 1073 0) = 1 ∧ 1 ≤ (S' 1092 0) ∧ (S' 1092 0) ≤ 24 ∧ 0 ≤ (S' 57 ((S' 1092 0) - 1)) ∧ (S' 57 ((S' 1092 0) - 1)) < (S' 1046 0) ∧ (S' 29 (S' 57 ((S' 1092 0) - 1))) = (S' 53 ((S' 1092 0) - 1)) ∧ 0 ≤ (S' 53 ((S' 1092 0) - 1)) ∧ (S' 53 ((S' 1092 0) - 1)) < (S' 1032 0) ∧ (S' 60 ((S' 1092 0) - 1)) = sm_dp (S' 1100024) (S' 1100023 (S' 57 ((S' 1092 0) - 1))) ∧ sm_TC (S' 61) (S' 62) (S' 27) (S' 1100007) (S' 1100023) (S' 1100024) (40 * ((S' 1092 0) - 1)) (S' 1100023 (S' 57 ((S' 1092 0) - 1))) ∧ sm_LK (S' 1100029) (S' 1076 0) (S' 54 ((S' 1092 0) - 1)) (S' 53 ((S' 1092 0) - 1)) ∧ sm_VO (S' 44) (S' 1076 0) (S' 1007 0) ((S' 55 ((S' 1092 0) - 1))) ((S' 56 ((S' 1092 0) - 1))) ∧ sm_FW (S' 44) (S' 1076 0) (S' 59 ((S' 1092 0) - 1)) ∧ sm_FL (S' 53) (S' 54) (S' 55) (S' 56) (S' 57) (S' 58) (S' 59) (S' 60) (S' 61) (S' 62) (S' 63) (S' 64) (S' 27) (S' 29) (S' 1100007) (S' 1100023) (S' 1100024) (S' 1100025) (S' 26) (S' 1100029) (S' 44) (S' 1046 0) (S' 1032 0) (S' 1076 0) (S' 1007 0) (((S' 1092 0) - 1)) ∧ (S' 58 ((S' 1092 0) - 1)) = (S' 1100007 (S' 57 ((S' 1092 0) - 1))) ∧ sm_SK (S' 63) (S' 64) (S' 44) (S' 1100007) (S' 1100025) (S' 1076 0) (S' 1007 0) (400 * ((S' 1092 0) - 1)) ((S' 58 ((S' 1092 0) - 1))) ((S' 1100025 (S' 57 ((S' 1092 0) - 1))))) ∧ ((S' 1073 0) = (S 1073 0) ∨ ((S' 1073 0) = 3 ∧ (S' 1092 0) = 0 ∧ (S' 1075 0) = 0)) ∧ (S' 1092 0) ≤ (S 1092 0) ∧ (0 ≤ (S 1092 0) → 0 ≤ (S' 1092 0)))
theorem la_toss__0 {x0 : Int} (h0 : 0 ≤ x0) (h1 : x0 = 0) : ¬ ¬ x0 = 0 := by omega
theorem la_toss__1 {x0 x1 x2 x3 x4 : Int} (h0 : 0 ≤ x0) (h1 : x0 < x1) (h2 : x2 = x3) (h3 : 0 ≤ x3) (h4 : x3 < x4) : 0 ≤ x3 ∧ x3 < x4 ∧ 0 ≤ x0 ∧ x0 < x1 ∧ x2 = x3 := by omega
theorem la_toss__2 {x0 : Int} (h0 : 1 ≤ x0) : 0 ≤ x0 := by omega
theorem la_toss__3 {x0 : Int} : x0 ≤ x0 := by omega
theorem la_toss__4 {x0 : Int} (h0 : x0 ≤ 0) : ¬ 1 ≤ x0 := by omega
theorem la_toss__5 {x0 : Int} (h0 : x0 ≤ 0) (h1 : ¬ x0 = 0) : x0 < 0 := by omega
theorem la_toss__6 {x0 x1 : Int} (h0 : 0 ≤ x0) (h1 : x0 < 0) (h2 : x0 - 1 = x1) : 0 ≤ x1 ∧ x1 < 24 := by omega
theorem la_toss__7 {x0 x1 : Int} (h0 : 1 ≤ x0) (h1 : 0 ≤ x1) (h2 : x1 < 0) : x1 - 1 = x0 - 1 := by omega
theorem la_toss__8 {x0 x1 x2 : Int} (h0 : 1 ≤ x0) (h1 : 0 ≤ x1) (h2 : x1 < 0) (h3 : x1 - 1 = x2) : x2 = x0 - 1 := by omega
theorem la_toss__9 {x0 x1 : Int} (h0 : 0 ≤ x0) (h1 : x0 < 0) (h2 : x0 - 1 = x1) : x1 = x0 - 1 := by omega
theorem la_toss__10 {x0 : Int} (h0 : 0 ≤ x0) (h1 : x0 < 0) : False := by omega
theorem la_toss__11 {x0 : Int} : x0 = x0 := by omega
theorem la_toss__12 {x0 x1 : Int} (h0 : 0 ≤ x0) (h1 : x0 < 0) : 0 ≤ x1 ∧ x1 < 960 := by omega
theorem la_toss__13 {x0 : Int} (h0 : 0 ≤ x0) (h1 : x0 < 0) : 1 ≤ x0 := by omega
theorem la_toss__14 {x0 : Int} (h0 : x0 < 0) : x0 ≤ 24 := by omega
theorem la_toss__15 {x0 x1 : Int} (h0 : x0 - 1 = x1) : x1 = x0 - 1 := by omega
theorem la_toss__16 {x0 x1 x2 : Int} (h0 : 0 ≤ x0) (h1 : x0 < 0) : x1 = x2 := by omega
theorem la_toss__17 {x0 : Int} (h0 : x0 = 0) : x0 ≤ 0 := by omega
theorem la_toss__18 {x0 x1 : Int} (h0 : 1 ≤ x0) (h1 : x1 < 0) : ¬ x0 - 1 = x1 - 1 := by omega
theorem la_toss__19 {x0 x1 x2 : Int} (h0 : 1 ≤ x0) (h1 : 0 ≤ x1) (h2 : x1 < 0) (h3 : x1 - 1 = x2) : x0 - 1 = x2 := by omega
theorem la_toss__20 {x0 x1 : Int} (h0 : 0 ≤ x0) (h1 : x0 < 0) : x1 = 6 := by omega
theorem la_toss__21 {x0 x1 : Int} (h0 : x0 ≤ 7) (h1 : 0 ≤ x1) (h2 : x1 < 0) : x0 = 7 := by omega
theorem la_toss__22 {x0 : Int} : ¬ ¬ x0 - 1 = x0 - 1 := by omega
theorem la_toss__23 {x0 x1 : Int} : ¬ ¬ 400 * (x0 - 1) + x1 = 400 * (x0 - 1) + x1 := by omega
theorem la_toss__24 {x0 x1 : Int} (h0 : 0 ≤ x0) (h1 : x1 = x0) : 0 ≤ x1 := by omega
theorem la_toss__25 {x0 x1 x2 : Int} (h0 : x0 < x1) (h1 : x2 = x0) : x2 < x1 := by omega
theorem la_toss__26 {x0 x1 x2 x3 x4 x5 x6 : Int} (h0 : x0 = x1) (h1 : 0 ≤ x2) (h2 : x2 < 0) (h3 : x3 = x4 - 1) (h4 : x4 = x0) (h5 : x5 = x1) (h6 : x6 = x5) : x3 = x6 := by omega
theorem la_toss__27 {x0 : Int} (h0 : x0 < 0) : x0 - 1 ≤ 0 := by omega
theorem la_toss__28 {x0 x1 x2 x3 x4 x5 : Int} (h0 : x0 = x1 + 1) (h1 : x1 = x2) (h2 : x3 = x4) (h3 : x4 = x2) (h4 : x0 = x3) : x0 = x5 := by omega
theorem la_toss__29 {x0 x1 : Int} (h0 : 1 ≤ x0) (h1 : 0 ≤ x1) (h2 : x1 < 0) : 400 * (x1 - 1) = 400 * (x0 - 1) := by omega
theorem la_toss__30 {x0 x1 x2 x3 x4 : Int} (h0 : x0 = x1 + 1) (h1 : x1 = x2) (h2 : x3 = x4) (h3 : x4 = x2) (h4 : x0 = x3) : x0 ≤ 0 := by omega
theorem la_toss__31 {x0 x1 x2 : Int} : x0 = x0 ∨ x0 = 3 ∧ x1 = 0 ∧ x2 = 0 := by omega
theorem la_toss__32 {x0 : Int} (h0 : (3 : Int) = 1) : x0 = 1 := by omega
theorem la_toss__33 {x0 : Int} (h0 : (3 : Int) = 1) : 1 ≤ x0 := by omega
theorem la_toss__34 {x0 : Int} (h0 : (3 : Int) = 1) : x0 ≤ 24 := by omega
theorem la_toss__35 {x0 : Int} (h0 : (3 : Int) = 1) : 0 ≤ x0 := by omega
theorem la_toss__36 {x0 x1 : Int} (h0 : (3 : Int) = 1) : x0 < x1 := by omega
theorem la_toss__37 {x0 x1 : Int} (h0 : (3 : Int) = 1) : x0 = x1 := by omega
theorem la_toss__38 {x0 : Int} (h0 : (3 : Int) = 1) : x0 < 0 := by omega
theorem la_toss__39 {x0 : Int} (h0 : (3 : Int) = 1) : x0 ≤ 0 := by omega
theorem la_toss__40 {x0 x1 x2 : Int} (h0 : 0 ≤ x0) (h1 : x0 = 0) (h2 : 0 ≤ x1) (h3 : x1 ≤ 0) (h4 : ¬ ¬ x1 = 0) : 3 = x2 ∨ (3 : Int) = 3 ∧ x1 = 0 ∧ x0 = 0 := by omega
theorem la_toss__41 {x0 : Int} (h0 : ¬ x0 ≤ 0) : 1 ≤ x0 := by omega
theorem la_toss__42 {x0 x1 : Int} (h0 : x0 ≤ 24) (h1 : x1 ≤ x0) (h2 : ¬ x1 ≤ 0) : 0 ≤ x1 - 1 ∧ x1 - 1 < 24 := by omega
theorem la_toss__43 {x0 : Int} (h0 : 0 ≤ x0) (h1 : ¬ x0 = 0) : 0 < x0 := by omega
theorem la_toss__44 {x0 x1 x2 : Int} (h0 : x0 = x1) (h1 : 0 ≤ x2) (h2 : x1 = x2 + 1) : 0 ≤ x0 := by omega
theorem la_toss__45 {x0 x1 x2 : Int} (h0 : x0 ≤ 24) (h1 : x1 ≤ x0) (h2 : ¬ x1 ≤ 0) (h3 : x1 - 1 = x2) : 0 ≤ x2 ∧ x2 < 24 := by omega
theorem la_toss__46 {x0 x1 : Int} (h0 : 0 < x0) (h1 : sv_R x1) (h2 : x1 = x0) : sv_R (x1 - 1) := by omega
theorem la_toss__47 {x0 x1 x2 x3 x4 x5 x6 : Int} (h0 : 0 < x0) (h1 : 0 < x1) (h2 : x0 - 1 = x2) (h3 : x3 = x4) (h4 : x3 = x5 - 1) (h5 : 40 * x2 + x4 = x6) (h6 : x5 = x1) : 0 ≤ x6 := by omega
theorem la_toss__48 {x0 x1 x2 x3 x4 x5 x6 x7 x8 x9 : Int} (h0 : x0 ≤ 24) (h1 : x1 ≤ x0) (h2 : x2 = x3) (h3 : x4 < 40) (h4 : x3 = x4 + 1) (h5 : x1 - 1 = x5) (h6 : x6 = x7) (h7 : x6 = x8 - 1) (h8 : 40 * x5 + x7 = x9) (h9 : x8 = x2) : x9 < 960 := by omega
theorem la_toss__49 {x0 x1 : Int} (h0 : x0 ≤ 24) (h1 : x1 ≤ x0) : x1 ≤ 24 := by omega
theorem la_toss__50 {x0 x1 x2 x3 x4 x5 x6 x7 x8 : Int} (h0 : x0 = x1) (h1 : x1 = x2 + 1) (h2 : x3 - 1 = x4) (h3 : x5 = x6) (h4 : x5 = x7 - 1) (h5 : 40 * x4 + x6 = x8) (h6 : x7 = x0) : x8 = 40 * (x3 - 1) + x2 := by omega
theorem la_toss__51 {x0 x1 x2 x3 : Int} (h0 : x0 = x1) (h1 : 0 ≤ x1) (h2 : x2 = x3) (h3 : x3 = x0) : 0 ≤ x2 := by omega
theorem la_toss__52 {x0 x1 x2 x3 : Int} (h0 : x0 = x1) (h1 : x1 ≤ 396) (h2 : x2 = x3) (h3 : x3 = x0) : x2 ≤ 400 := by omega
theorem la_toss__53 {x0 x1 x2 x3 : Int} (h0 : x0 = x1) (h1 : x1 ≤ 396) (h2 : x2 = x3) (h3 : x3 = x0) : x2 < 400 := by omega
theorem la_toss__54 {x0 x1 x2 x3 x4 : Int} (h0 : x0 = x1) (h1 : x1 < x2) (h2 : x3 = x4) (h3 : x4 = x0) : x3 < x2 := by omega
theorem la_toss__55 {x0 x1 x2 x3 : Int} (h0 : x0 = x1) (h1 : x2 = x3) (h2 : x3 = x0) : x2 = x1 := by omega
theorem la_toss__56 {x0 x1 x2 x3 : Int} (h0 : x0 = x1) (h1 : x2 = x0) (h2 : x3 = x2) : x3 = x1 := by omega
theorem la_toss__57 {x0 x1 x2 : Int} (h0 : x0 = x1) (h1 : x2 = x0) : x2 = x1 := by omega
theorem la_toss__58 {x0 x1 x2 x3 x4 x5 x6 : Int} (h0 : x0 = x1) (h1 : x1 = x2 + 1) (h2 : x2 = x3) (h3 : x4 = x5 - 1) (h4 : x5 = x0) (h5 : x6 = x3) : x4 = x6 := by omega
theorem la_toss__59 {x0 x1 x2 : Int} (h0 : x0 = x1) (h1 : x2 = x0) : x1 = x2 := by omega
theorem la_toss__60 {x0 x1 : Int} (h0 : x0 - 1 = x1) : x0 - 1 ≤ x1 := by omega
theorem la_toss__61 {x0 x1 : Int} (h0 : x0 ≤ x1) : x0 - 1 ≤ x1 - 1 := by omega
theorem la_toss__62 {x0 x1 x2 x3 x4 : Int} (h0 : x0 = x1) (h1 : 0 ≤ x1) (h2 : x2 = x3) (h3 : x3 = x0) : 400 * (x4 - 1) ≤ 400 * (x4 - 1) + x2 := by omega
theorem la_toss__63 {x0 x1 x2 x3 x4 x5 x6 : Int} (h0 : x0 = x1) (h1 : x2 = x1 + 1) (h2 : x3 = x4 + 1) (h3 : x4 = x5) (h4 : x5 = x0) (h5 : x6 = x2) : x3 = x6 := by omega
theorem la_toss__64 {x0 x1 x2 x3 x4 : Int} (h0 : x0 = x1) (h1 : x2 = x3) (h2 : x3 = x0) : 400 * (x4 - 1) + x1 ≤ 400 * (x4 - 1) + x2 := by omega
theorem la_toss__65 {x0 x1 x2 x3 x4 : Int} (h0 : x0 = x1) (h1 : x2 = x3 + 1) (h2 : x3 = x4) (h3 : x4 = x0) : x2 = x1 + 1 := by omega
theorem la_toss__66 {x0 x1 x2 x3 x4 : Int} (h0 : x0 = x1) (h1 : x2 = x3) (h2 : x3 = x0) : 400 * (x4 - 1) + x1 = 400 * (x4 - 1) + x2 := by omega
theorem la_toss__67 {x0 x1 x2 : Int} (h0 : x0 < x1) (h1 : x2 < x0) : x2 < x1 := by omega
theorem la_toss__68 {x0 : Int} (h0 : ¬ x0 ≤ 0) (h1 : ¬ ¬ x0 = 0) : x0 ≤ 0 := by omega
theorem la_toss__69 {x0 x1 x2 : Int} (h0 : 0 ≤ x0) (h1 : x0 = 0) (h2 : ¬ x1 ≤ 0) (h3 : ¬ ¬ x1 = 0) : 3 = x2 ∨ (3 : Int) = 3 ∧ x1 = 0 ∧ x0 = 0 := by omega
theorem la_toss__70 {x0 x1 : Int} (h0 : x0 ≤ 24) (h1 : x1 ≤ x0) (h2 : ¬ x1 ≤ 0) : sv_R (x1 - 1) := by omega
theorem la_toss__71 {x0 : Int} (h0 : ¬ x0 ≤ 0) : 0 ≤ x0 - 1 := by omega
theorem la_toss__72 {x0 x1 : Int} (h0 : x0 ≤ x1) : x0 - 1 ≤ x1 := by omega
theorem la_toss__73 {x0 : Int} (h0 : 1 ≤ x0 - 1) : 0 ≤ x0 - 1 - 1 := by omega
theorem la_toss__74 {x0 x1 : Int} (h0 : x0 ≤ x1) : x0 - 1 - 1 < x1 - 1 := by omega
theorem la_toss__75 {x0 : Int} : x0 - 1 - 1 ≤ x0 - 1 := by omega
theorem la_toss__76 {x0 : Int} : x0 - 1 < x0 := by omega
theorem la_toss__77 {x0 : Int} (h0 : 0 < x0) (h1 : x0 = 0) : False := by omega
set_option maxHeartbeats 2000000 in
theorem f_toss_ : ∀ (p1 : Int) (p2 : Int) (S : sv_S), sm_ok S → sv_R p1 → sv_R p2 → ((¬ (S 1075 0) = 0 → sm_LX (S 58) (S 63) (S 64) (S 1092 0) (S 1076 0)) ∧ ((S 1075 0) = 0 → 31 ≤ (S 1007 0) ∧ (S 1007 0) ≤ 400 ∧ sm_LN (S 4) 400 (S 1007 0) ∧ sm_CT (S 26) (S 27) (S 28) (S 29) (S 1100007) (S 1100023) (S 1100024) (S 1100025) (S 21) (S 1046 0) (S 1032 0) (S 1008 0) (S 1055 0) ∧ sm_LS (S 26) (S 1100007) (S 1100025) (S 1046 0) ∧ sm_CL (S 1100007) (S 1100023) (S 1100025) (S 1046 0) ∧ 1 ≤ (S 1032 0) ∧ (S 1032 0) ≤ 11 ∧ 0 ≤ (S 1046 0) ∧ (S 1046 0) ≤ 600 ∧ 31 ≤ (S 1008 0) ∧ (S 1008 0) ≤ (S 1007 0) ∧ 0 ≤ (S 1055 0) ∧ (S 1055 0) ≤ 19 ∧ 1 ≤ (S 1092 0) ∧ (S 1092 0) ≤ 24 ∧ 0 ≤ (S 57 ((S 1092 0) - 1)) ∧ (S 57 ((S 1092 0) - 1)) < (S 1046 0) ∧ (S 29 (S 57 ((S 1092 0) - 1))) = (S 53 ((S 1092 0) - 1)) ∧ 0 ≤ (S 53 ((S 1092 0) - 1)) ∧ (S 53 ((S 1092 0) - 1)) < (S 1032 0) ∧ (S 60 ((S 1092 0) - 1)) = sm_dp (S 1100024) (S 1100023 (S 57 ((S 1092 0) - 1))) ∧ sm_TC (S 61) (S 62) (S 27) (S 1100007) (S 1100023) (S 1100024) (40 * ((S 1092 0) - 1)) (S 1100023 (S 57 ((S 1092 0) - 1))) ∧ sm_LK (S 1100029) (S 1076 0) (S 54 ((S 1092 0) - 1)) (S 53 ((S 1092 0) - 1)) ∧ sm_VO (S 44) (S 1076 0) (S 1007 0) ((S 55 ((S 1092 0) - 1))) ((S 56 ((S 1092 0) - 1))) ∧ sm_FW (S 44) (S 1076 0) (S 59 ((S 1092 0) - 1)) ∧ sm_FL (S 53) (S 54) (S 55) (S 56) (S 57) (S 58) (S 59) (S 60) (S 61) (S 62) (S 63) (S 64) (S 27) (S 29) (S 1100007) (S 1100023) (S 1100024) (S 1100025) (S 26) (S 1100029) (S 44) (S 1046 0) (S 1032 0) (S 1076 0) (S 1007 0) (((S 1092 0) - 1)) ∧ (S 58 ((S 1092 0) - 1)) = (S 1100007 (S 57 ((S 1092 0) - 1))) ∧ sm_SK (S 63) (S 64) (S 44) (S 1100007) (S 1100025) (S 1076 0) (S 1007 0) (400 * ((S 1092 0) - 1)) ((S 58 ((S 1092 0) - 1))) ((S 1100025 (S 57 ((S 1092 0) - 1)))) ∧ sm_VO (S 44) (S 1076 0) (S 1007 0) (p1) (p2) ∧ (0 ≤ (S 1100023 (S 57 ((S 1092 0) - 1))) → (S 1100007 (S 1100023 (S 57 ((S 1092 0) - 1)))) ≤ (S 58 ((S 1092 0) - 1))))) → ((sm_CT (S 26) (S 27) (S 28) (S 29) (S 1100007) (S 1100023) (S 1100024) (S 1100025) (S 21) (S 1046 0) (S 1032 0) (S 1008 0) (S 1055 0) → sm_CL (S 1100007) (S 1100023) (S 1100025) (S 1046 0) → 0 ≤ (S 53 ((S 1092 0) - 1)) ∧ (S 53 ((S 1092 0) - 1)) < (S 1032 0) ∧ 0 ≤ (S 57 ((S 1092 0) - 1)) ∧ (S 57 ((S 1092 0) - 1)) < (S 1046 0) ∧ (S 29 (S 57 ((S 1092 0) - 1))) = (S 53 ((S 1092 0) - 1)) → (S 60 ((S 1092 0) - 1)) = sm_dp (S 1100024) (S 1100023 (S 57 ((S 1092 0) - 1))) → sm_TC (S 61) (S 62) (S 27) (S 1100007) (S 1100023) (S 1100024) (40 * ((S 1092 0) - 1)) (S 1100023 (S 57 ((S 1092 0) - 1))) → sm_SK (S 63) (S 64) (S 44) (S 1100007) (S 1100025) (S 1076 0) (S 1007 0) (400 * ((S 1092 0) - 1)) ((S 58 ((S 1092 0) - 1))) ((S 1100025 (S 57 ((S 1092 0) - 1)))) → (0 ≤ (S 1100023 (S 57 ((S 1092 0) - 1))) → (S 1100007 (S 1100023 (S 57 ((S 1092 0) - 1)))) ≤ (S 58 ((S 1092 0) - 1))) → sm_LK (S 1100029) (S 1076 0) (S 54 ((S 1092 0) - 1)) (S 53 ((S 1092 0) - 1)) → sm_VO (S 44) (S 1076 0) (S 1007 0) ((S 55 ((S 1092 0) - 1))) ((S 56 ((S 1092 0) - 1))) → sm_FW (S 44) (S 1076 0) (S 59 ((S 1092 0) - 1)) → sm_FG (S 53) (S 54) (S 55) (S 56) (S 57) (S 58) (S 59) (S 60) (S 61) (S 62) (S 63) (S 64) (S 27) (S 29) (S 1100007) (S 1100023) (S 1100024) (S 1100025) (S 26) (S 1100029) (S 44) (S 1046 0) (S 1032 0) (S 1076 0) (S 1007 0) ((S 1092 0) - 1)) → ((0 ≤ (S 1075 0) ∧ (S 1075 0) ≤ 1) → ((((S 1075 0) = (0 : Int)) → ((0 ≤ (S 1092 0) ∧ (S 1092 0) ≤ (S 1092 0) ∧ (1 ≤ (S 1092 0) → sm_FG (S 53) (S 54) (S 55) (S 56) (S 57) (S 58) (S 59) (S 60) (S 61) (S 62) (S 63) (S 64) (S 27) (S 29) (S 1100007) (S 1100023) (S 1100024) (S 1100025) (S 26) (S 1100029) (S 44) (S 1046 0) (S 1032 0) (S 1076 0) (S 1007 0) ((S 1092 0) - 1)) ∧ sm_FL (S 53) (S 54) (S 55) (S 56) (S 57) (S 58) (S 59) (S 60) (S 61) (S 62) (S 63) (S 64) (S 27) (S 29) (S 1100007) (S 1100023) (S 1100024) (S 1100025) (S 26) (S 1100029) (S 44) (S 1046 0) (S 1032 0) (S 1076 0) (S 1007 0) (((S 1092 0) - 1))) ∧ (∀ g3 : sv_S, (0 ≤ (g3 1092 0) ∧ (g3 1092 0) ≤ (S 1092 0) ∧ (1 ≤ (g3 1092 0) → sm_FG (S 53) (S 54) (S 55) (S 56) (S 57) (S 58) (S 59) (S 60) (S 61) (S 62) (S 63) (S 64) (S 27) (S 29) (S 1100007) (S 1100023) (S 1100024) (S 1100025) (S 26) (S 1100029) (S 44) (S 1046 0) (S 1032 0) (S 1076 0) (S 1007 0) ((g3 1092 0) - 1)) ∧ sm_FL (S 53) (S 54) (S 55) (S 56) (S 57) (S 58) (S 59) (S 60) (S 61) (S 62) (S 63) (S 64) (S 27) (S 29) (S 1100007) (S 1100023) (S 1100024) (S 1100025) (S 26) (S 1100029) (S 44) (S 1046 0) (S 1032 0) (S 1076 0) (S 1007 0) (((g3 1092 0) - 1))) → (0 ≤ (g3 1092 0)) ∧ (sv_R (g3 1092 0) → ((((g3 1092 0) ≤ (0 : Int)) → ((sm_FG (S 53) (S 54) (S 55) (S 56) (S 57) (S 58) (S 59) (S 60) (S 61) (S 62) (S 63) (S 64) (S 27) (S 29) (S 1100007) (S 1100023) (S 1100024) (S 1100025) (S 26) (S 1100029) (S 44) (S 1046 0) (S 1032 0) (S 1076 0) (S 1007 0) ((g3 1092 0) - 1) → (0 ≤ (S 53 ((g3 1092 0) - 1)) ∧ (S 53 ((g3 1092 0) - 1)) < (S 1032 0) ∧ 0 ≤ (S 57 ((g3 1092 0) - 1)) ∧ (S 57 ((g3 1092 0) - 1)) < (S 1046 0) ∧ (S 29 (S 57 ((g3 1092 0) - 1))) = (S 53 ((g3 1092 0) - 1))) ∧ ((S 60 ((g3 1092 0) - 1)) = sm_dp (S 1100024) (S 1100023 (S 57 ((g3 1092 0) - 1)))) ∧ sm_TC (S 61) (S 62) (S 27) (S 1100007) (S 1100023) (S 1100024) (40 * ((g3 1092 0) - 1)) (S 1100023 (S 57 ((g3 1092 0) - 1))) ∧ (0 ≤ (S 1100023 (S 57 ((g3 1092 0) - 1))) → ((S 1100023 (S 57 ((g3 1092 0) - 1))) < (S 1046 0) ∧ (S 26 (S 1100023 (S 57 ((g3 1092 0) - 1)))) = 27 ∧ (S 29 (S 1100023 (S 57 ((g3 1092 0) - 1)))) = (S 53 ((g3 1092 0) - 1))) ∧ sm_SK (S 63) (S 64) (S 44) (S 1100007) (S 1100025) (S 1076 0) (S 1007 0) (400 * ((g3 1092 0) - 1)) ((S 1100007 (S 1100023 (S 57 ((g3 1092 0) - 1))))) ((S 1100025 (S 1100023 (S 57 ((g3 1092 0) - 1)))))) ∧ sm_LK (S 1100029) (S 1076 0) (S 54 ((g3 1092 0) - 1)) (S 53 ((g3 1092 0) - 1)) ∧ sm_VO (S 44) (S 1076 0) (S 1007 0) ((S 55 ((g3 1092 0) - 1))) ((S 56 ((g3 1092 0) - 1))) ∧ sm_FW (S 44) (S 1076 0) (S 59 ((g3 1092 0) - 1))) → (((¬ (g3 1092 0) = (0 : Int)) → ((¬ (S 60 ((g3 1092 0) - 1)) = 0 → (S 60 ((g3 1092 0) - 1)) = sm_dp (S 1100024) (S 1100023 (S 57 ((g3 1092 0) - 1))) → 0 ≤ (S 1100023 (S 57 ((g3 1092 0) - 1)))) → ((sm_CT (S 26) (S 27) (S 28) (S 29) (S 1100007) (S 1100023) (S 1100024) (S 1100025) (S 21) (S 1046 0) (S 1032 0) (S 1008 0) (S 1055 0) → sm_TC (S 61) (S 62) (S 27) (S 1100007) (S 1100023) (S 1100024) (40 * ((g3 1092 0) - 1)) (S 1100023 (S 57 ((g3 1092 0) - 1))) → 0 ≤ (S 1100023 (S 57 ((g3 1092 0) - 1))) → (S 1100023 (S 57 ((g3 1092 0) - 1))) < (S 1046 0) → (S 26 (S 1100023 (S 57 ((g3 1092 0) - 1)))) = 27 → (0 ≤ (S 1100024 (S 1100023 (S 57 ((g3 1092 0) - 1)))) ∧ (S 1100024 (S 1100023 (S 57 ((g3 1092 0) - 1)))) < 40 ∧ sm_dp (S 1100024) (S 1100023 (S 57 ((g3 1092 0) - 1))) = (S 1100024 (S 1100023 (S 57 ((g3 1092 0) - 1)))) + 1 ∧ (S 1100024 (S 1100023 (S 57 ((g3 1092 0) - 1)))) = sm_dp (S 1100024) (S 1100023 (S 1100023 (S 57 ((g3 1092 0) - 1)))) ∧ -1 ≤ (S 1100023 (S 1100023 (S 57 ((g3 1092 0) - 1)))) ∧ (S 1100023 (S 1100023 (S 57 ((g3 1092 0) - 1)))) < (S 1100023 (S 57 ((g3 1092 0) - 1)))) ∧ ((S 61 (40 * ((g3 1092 0) - 1) + (S 1100024 (S 1100023 (S 57 ((g3 1092 0) - 1)))))) = (S 27 (S 1100023 (S 57 ((g3 1092 0) - 1)))) ∧ (S 62 (40 * ((g3 1092 0) - 1) + (S 1100024 (S 1100023 (S 57 ((g3 1092 0) - 1)))))) = (S 1100007 (S 1100023 (S 57 ((g3 1092 0) - 1)))) ∧ 0 ≤ (S 1100007 (S 1100023 (S 57 ((g3 1092 0) - 1)))) ∧ (S 1100007 (S 1100023 (S 57 ((g3 1092 0) - 1)))) ≤ 396) ∧ (0 ≤ (S 27 (S 1100023 (S 57 ((g3 1092 0) - 1)))) ∧ (S 27 (S 1100023 (S 57 ((g3 1092 0) - 1)))) < (S 1046 0) ∧ (S 29 (S 27 (S 1100023 (S 57 ((g3 1092 0) - 1))))) = (S 29 (S 1100023 (S 57 ((g3 1092 0) - 1)))) ∧ (S 1100007 (S 27 (S 1100023 (S 57 ((g3 1092 0) - 1))))) = (S 1100007 (S 1100023 (S 57 ((g3 1092 0) - 1)))) + 1 ∧ (S 1100023 (S 27 (S 1100023 (S 57 ((g3 1092 0) - 1))))) = (S 1100023 (S 1100023 (S 57 ((g3 1092 0) - 1)))) ∧ (S 1100025 (S 27 (S 1100023 (S 57 ((g3 1092 0) - 1))))) = (S 1100025 (S 1100023 (S 57 ((g3 1092 0) - 1))))) ∧ sm_TC (S 61) (S 62) (S 27) (S 1100007) (S 1100023) (S 1100024) (40 * ((g3 1092 0) - 1)) (S 1100023 (S 1100023 (S 57 ((g3 1092 0) - 1)))) ∧ (-1 ≤ (S 1100025 (S 1100023 (S 57 ((g3 1092 0) - 1)))) ∧ (S 1100025 (S 1100023 (S 57 ((g3 1092 0) - 1)))) < (S 1100023 (S 57 ((g3 1092 0) - 1))) ∧ (0 ≤ (S 1100025 (S 1100023 (S 57 ((g3 1092 0) - 1)))) → (S 26 (S 1100025 (S 1100023 (S 57 ((g3 1092 0) - 1))))) = 29 ∧ (S 1100007 (S 1100025 (S 1100023 (S 57 ((g3 1092 0) - 1))))) ≤ (S 1100007 (S 1100023 (S 57 ((g3 1092 0) - 1))))))) → (∀ x13 : Int, ((g3 1092 0) - (1 : Int)) = x13 → (0 ≤ x13 ∧ x13 < 24) ∧ (sv_R (S 60 x13) → (sv_R ((S 60 x13) - (1 : Int))) ∧ (∀ v20 : Int, (if x13 = x13 then ((S 60 x13) - (1 : Int)) else (S 60 x13)) = v20 → (sv_R v20 → (∀ x22 : Int, (((40 : Int) * x13) + v20) = x22 → (0 ≤ x22 ∧ x22 < 960) ∧ (sv_R (S 62 x22) → (1 ≤ (g3 1092 0) ∧ (g3 1092 0) ≤ 24 ∧ 0 ≤ (if ((g3 1092 0) - 1) = x13 then (S 62 x22) else (S 58 ((g3 1092 0) - 1))) ∧ (if ((g3 1092 0) - 1) = x13 then (S 62 x22) else (S 58 ((g3 1092 0) - 1))) ≤ 400 ∧ (if ((g3 1092 0) - 1) = x13 then (S 62 x22) else (S 58 ((g3 1092 0) - 1))) < 400) ∧ (∀ g29 : sv_S, ((g29 58 ((g3 1092 0) - 1)) = (if ((g3 1092 0) - 1) = x13 then (S 62 x22) else (S 58 ((g3 1092 0) - 1))) + 1 ∧ (g29 63 (400 * ((g3 1092 0) - 1) + (if ((g3 1092 0) - 1) = x13 then (S 62 x22) else (S 58 ((g3 1092 0) - 1))))) = p1 ∧ (g29 64 (400 * ((g3 1092 0) - 1) + (if ((g3 1092 0) - 1) = x13 then (S 62 x22) else (S 58 ((g3 1092 0) - 1))))) = p2 ∧ (∀ k : Int, ¬ k = (g3 1092 0) - 1 → (g29 58 k) = (if k = x13 then (S 62 x22) else (S 58 k))) ∧ (∀ k : Int, ¬ k = (400 * ((g3 1092 0) - 1) + (if ((g3 1092 0) - 1) = x13 then (S 62 x22) else (S 58 ((g3 1092 0) - 1)))) → (g29 63 k) = (S 63 k)) ∧ (∀ k : Int, ¬ k = (400 * ((g3 1092 0) - 1) + (if ((g3 1092 0) - 1) = x13 then (S 62 x22) else (S 58 ((g3 1092 0) - 1)))) → (g29 64 k) = (S 64 k))) → (sv_R (S 61 x22) → ((¬ (S 1075 0) = 0 → sm_LX (g29 58) (g29 63) (g29 64) (g3 1092 0) (S 1076 0)) ∧ ((S 1075 0) = 0 → (S 1073 0) = 1 → (S 1073 0) = 1 ∧ 1 ≤ (g3 1092 0) ∧ (g3 1092 0) ≤ 24 ∧ 0 ≤ (if ((g3 1092 0) - 1) = x13 then (S 61 x22) else (S 57 ((g3 1092 0) - 1))) ∧ (if ((g3 1092 0) - 1) = x13 then (S 61 x22) else (S 57 ((g3 1092 0) - 1))) < (S 1046 0) ∧ (S 29 (if ((g3 1092 0) - 1) = x13 then (S 61 x22) else (S 57 ((g3 1092 0) - 1)))) = (S 53 ((g3 1092 0) - 1)) ∧ 0 ≤ (S 53 ((g3 1092 0) - 1)) ∧ (S 53 ((g3 1092 0) - 1)) < (S 1032 0) ∧ (if ((g3 1092 0) - 1) = x13 then ((S 60 x13) - (1 : Int)) else (S 60 ((g3 1092 0) - 1))) = sm_dp (S 1100024) (S 1100023 (if ((g3 1092 0) - 1) = x13 then (S 61 x22) else (S 57 ((g3 1092 0) - 1)))) ∧ sm_TC (S 61) (S 62) (S 27) (S 1100007) (S 1100023) (S 1100024) (40 * ((g3 1092 0) - 1)) (S 1100023 (if ((g3 1092 0) - 1) = x13 then (S 61 x22) else (S 57 ((g3 1092 0) - 1)))) ∧ sm_LK (S 1100029) (S 1076 0) (S 54 ((g3 1092 0) - 1)) (S 53 ((g3 1092 0) - 1)) ∧ sm_VO (S 44) (S 1076 0) (S 1007 0) ((S 55 ((g3 1092 0) - 1))) ((S 56 ((g3 1092 0) - 1))) ∧ sm_FW (S 44) (S 1076 0) (S 59 ((g3 1092 0) - 1)) ∧ sm_FL (S 53) (S 54) (S 55) (S 56) (fun i' : Int => if i' = x13 then (S 61 x22) else (S 57) i') (g29 58) (S 59) (fun i' : Int => if i' = x13 then ((S 60 x13) - (1 : Int)) else (S 60) i') (S 61) (S 62) (g29 63) (g29 64) (S 27) (S 29) (S 1100007) (S 1100023) (S 1100024) (S 1100025) (S 26) (S 1100029) (S 44) (S 1046 0) (S 1032 0) (S 1076 0) (S 1007 0) (((g3 1092 0) - 1)) ∧ (g29 58 ((g3 1092 0) - 1)) = (S 1100007 (if ((g3 1092 0) - 1) = x13 then (S 61 x22) else (S 57 ((g3 1092 0) - 1)))) ∧ sm_SK (g29 63) (g29 64) (S 44) (S 1100007) (S 1100025) (S 1076 0) (S 1007 0) (400 * ((g3 1092 0) - 1)) ((g29 58 ((g3 1092 0) - 1))) ((S 1100025 (if ((g3 1092 0) - 1) = x13 then (S 61 x22) else (S 57 ((g3 1092 0) - 1)))))) ∧ ((S 1073 0) = (S 1073 0) ∨ ((S 1073 0) = 3 ∧ (g3 1092 0) = 0 ∧ (S 1075 0) = 0)) ∧ (g3 1092 0) ≤ (S 1092 0) ∧ (0 ≤ (S 1092 0) → 0 ≤ (g3 1092 0)))))))))))))) ∧ ((¬ (¬ (g3 1092 0) = (0 : Int))) → ((¬ (S 1075 0) = 0 → sm_LX (S 58) (S 63) (S 64) (g3 1092 0) (S 1076 0)) ∧ ((S 1075 0) = 0 → (3 : Int) = 1 → (S 1073 0) = 1 ∧ 1 ≤ (g3 1092 0) ∧ (g3 1092 0) ≤ 24 ∧ 0 ≤ (S 57 ((g3 1092 0) - 1)) ∧ (S 57 ((g3 1092 0) - 1)) < (S 1046 0) ∧ (S 29 (S 57 ((g3 1092 0) - 1))) = (S 53 ((g3 1092 0) - 1)) ∧ 0 ≤ (S 53 ((g3 1092 0) - 1)) ∧ (S 53 ((g3 1092 0) - 1)) < (S 1032 0) ∧ (S 60 ((g3 1092 0) - 1)) = sm_dp (S 1100024) (S 1100023 (S 57 ((g3 1092 0) - 1))) ∧ sm_TC (S 61) (S 62) (S 27) (S 1100007) (S 1100023) (S 1100024) (40 * ((g3 1092 0) - 1)) (S 1100023 (S 57 ((g3 1092 0) - 1))) ∧ sm_LK (S 1100029) (S 1076 0) (S 54 ((g3 1092 0) - 1)) (S 53 ((g3 1092 0) - 1)) ∧ sm_VO (S 44) (S 1076 0) (S 1007 0) ((S 55 ((g3 1092 0) - 1))) ((S 56 ((g3 1092 0) - 1))) ∧ sm_FW (S 44) (S 1076 0) (S 59 ((g3 1092 0) - 1)) ∧ sm_FL (S 53) (S 54) (S 55) (S 56) (S 57) (S 58) (S 59) (S 60) (S 61) (S 62) (S 63) (S 64) (S 27) (S 29) (S 1100007) (S 1100023) (S 1100024) (S 1100025) (S 26) (S 1100029) (S 44) (S 1046 0) (S 1032 0) (S 1076 0) (S 1007 0) (((g3 1092 0) - 1)) ∧ (S 58 ((g3 1092 0) - 1)) = (S 1100007 (S 57 ((g3 1092 0) - 1))) ∧ sm_SK (S 63) (S 64) (S 44) (S 1100007) (S 1100025) (S 1076 0) (S 1007 0) (400 * ((g3 1092 0) - 1)) ((S 58 ((g3 1092 0) - 1))) ((S 1100025 (S 57 ((g3 1092 0) - 1))))) ∧ ((3 : Int) = (S 1073 0) ∨ ((3 : Int) = 3 ∧ (g3 1092 0) = 0 ∧ (S 1075 0) = 0)) ∧ (g3 1092 0) ≤ (S 1092 0) ∧ (0 ≤ (S 1092 0) → 0 ≤ (g3 1092 0))))))) ∧ ((¬ ((g3 1092 0) ≤ (0 : Int))) → (0 ≤ ((g3 1092 0) - (1 : Int)) ∧ ((g3 1092 0) - (1 : Int)) < 24) ∧ (sv_R (S 60 ((g3 1092 0) - (1 : Int))) → (((¬ (S 60 ((g3 1092 0) - (1 : Int))) = (0 : Int)) → ((sm_FG (S 53) (S 54) (S 55) (S 56) (S 57) (S 58) (S 59) (S 60) (S 61) (S 62) (S 63) (S 64) (S 27) (S 29) (S 1100007) (S 1100023) (S 1100024) (S 1100025) (S 26) (S 1100029) (S 44) (S 1046 0) (S 1032 0) (S 1076 0) (S 1007 0) ((g3 1092 0) - 1) → (0 ≤ (S 53 ((g3 1092 0) - 1)) ∧ (S 53 ((g3 1092 0) - 1)) < (S 1032 0) ∧ 0 ≤ (S 57 ((g3 1092 0) - 1)) ∧ (S 57 ((g3 1092 0) - 1)) < (S 1046 0) ∧ (S 29 (S 57 ((g3 1092 0) - 1))) = (S 53 ((g3 1092 0) - 1))) ∧ ((S 60 ((g3 1092 0) - 1)) = sm_dp (S 1100024) (S 1100023 (S 57 ((g3 1092 0) - 1)))) ∧ sm_TC (S 61) (S 62) (S 27) (S 1100007) (S 1100023) (S 1100024) (40 * ((g3 1092 0) - 1)) (S 1100023 (S 57 ((g3 1092 0) - 1))) ∧ (0 ≤ (S 1100023 (S 57 ((g3 1092 0) - 1))) → ((S 1100023 (S 57 ((g3 1092 0) - 1))) < (S 1046 0) ∧ (S 26 (S 1100023 (S 57 ((g3 1092 0) - 1)))) = 27 ∧ (S 29 (S 1100023 (S 57 ((g3 1092 0) - 1)))) = (S 53 ((g3 1092 0) - 1))) ∧ sm_SK (S 63) (S 64) (S 44) (S 1100007) (S 1100025) (S 1076 0) (S 1007 0) (400 * ((g3 1092 0) - 1)) ((S 1100007 (S 1100023 (S 57 ((g3 1092 0) - 1))))) ((S 1100025 (S 1100023 (S 57 ((g3 1092 0) - 1)))))) ∧ sm_LK (S 1100029) (S 1076 0) (S 54 ((g3 1092 0) - 1)) (S 53 ((g3 1092 0) - 1)) ∧ sm_VO (S 44) (S 1076 0) (S 1007 0) ((S 55 ((g3 1092 0) - 1))) ((S 56 ((g3 1092 0) - 1))) ∧ sm_FW (S 44) (S 1076 0) (S 59 ((g3 1092 0) - 1))) → (((¬ (g3 1092 0) = (0 : Int)) → ((¬ (S 60 ((g3 1092 0) - 1)) = 0 → (S 60 ((g3 1092 0) - 1)) = sm_dp (S 1100024) (S 1100023 (S 57 ((g3 1092 0) - 1))) → 0 ≤ (S 1100023 (S 57 ((g3 1092 0) - 1)))) → ((sm_CT (S 26) (S 27) (S 28) (S 29) (S 1100007) (S 1100023) (S 1100024) (S 1100025) (S 21) (S 1046 0) (S 1032 0) (S 1008 0) (S 1055 0) → sm_TC (S 61) (S 62) (S 27) (S 1100007) (S 1100023) (S 1100024) (40 * ((g3 1092 0) - 1)) (S 1100023 (S 57 ((g3 1092 0) - 1))) → 0 ≤ (S 1100023 (S 57 ((g3 1092 0) - 1))) → (S 1100023 (S 57 ((g3 1092 0) - 1))) < (S 1046 0) → (S 26 (S 1100023 (S 57 ((g3 1092 0) - 1)))) = 27 → (0 ≤ (S 1100024 (S 1100023 (S 57 ((g3 1092 0) - 1)))) ∧ (S 1100024 (S 1100023 (S 57 ((g3 1092 0) - 1)))) < 40 ∧ sm_dp (S 1100024) (S 1100023 (S 57 ((g3 1092 0) - 1))) = (S 1100024 (S 1100023 (S 57 ((g3 1092 0) - 1)))) + 1 ∧ (S 1100024 (S 1100023 (S 57 ((g3 1092 0) - 1)))) = sm_dp (S 1100024) (S 1100023 (S 1100023 (S 57 ((g3 1092 0) - 1)))) ∧ -1 ≤ (S 1100023 (S 1100023 (S 57 ((g3 1092 0) - 1)))) ∧ (S 1100023 (S 1100023 (S 57 ((g3 1092 0) - 1)))) < (S 1100023 (S 57 ((g3 1092 0) - 1)))) ∧ ((S 61 (40 * ((g3 1092 0) - 1) + (S 1100024 (S 1100023 (S 57 ((g3 1092 0) - 1)))))) = (S 27 (S 1100023 (S 57 ((g3 1092 0) - 1)))) ∧ (S 62 (40 * ((g3 1092 0) - 1) + (S 1100024 (S 1100023 (S 57 ((g3 1092 0) - 1)))))) = (S 1100007 (S 1100023 (S 57 ((g3 1092 0) - 1)))) ∧ 0 ≤ (S 1100007 (S 1100023 (S 57 ((g3 1092 0) - 1)))) ∧ (S 1100007 (S 1100023 (S 57 ((g3 1092 0) - 1)))) ≤ 396) ∧ (0 ≤ (S 27 (S 1100023 (S 57 ((g3 1092 0) - 1)))) ∧ (S 27 (S 1100023 (S 57 ((g3 1092 0) - 1)))) < (S 1046 0) ∧ (S 29 (S 27 (S 1100023 (S 57 ((g3 1092 0) - 1))))) = (S 29 (S 1100023 (S 57 ((g3 1092 0) - 1)))) ∧ (S 1100007 (S 27 (S 1100023 (S 57 ((g3 1092 0) - 1))))) = (S 1100007 (S 1100023 (S 57 ((g3 1092 0) - 1)))) + 1 ∧ (S 1100023 (S 27 (S 1100023 (S 57 ((g3 1092 0) - 1))))) = (S 1100023 (S 1100023 (S 57 ((g3 1092 0) - 1)))) ∧ (S 1100025 (S 27 (S 1100023 (S 57 ((g3 1092 0) - 1))))) = (S 1100025 (S 1100023 (S 57 ((g3 1092 0) - 1))))) ∧ sm_TC (S 61) (S 62) (S 27) (S 1100007) (S 1100023) (S 1100024) (40 * ((g3 1092 0) - 1)) (S 1100023 (S 1100023 (S 57 ((g3 1092 0) - 1)))) ∧ (-1 ≤ (S 1100025 (S 1100023 (S 57 ((g3 1092 0) - 1)))) ∧ (S 1100025 (S 1100023 (S 57 ((g3 1092 0) - 1)))) < (S 1100023 (S 57 ((g3 1092 0) - 1))) ∧ (0 ≤ (S 1100025 (S 1100023 (S 57 ((g3 1092 0) - 1)))) → (S 26 (S 1100025 (S 1100023 (S 57 ((g3 1092 0) - 1))))) = 29 ∧ (S 1100007 (S 1100025 (S 1100023 (S 57 ((g3 1092 0) - 1))))) ≤ (S 1100007 (S 1100023 (S 57 ((g3 1092 0) - 1))))))) → (∀ x48 : Int, ((g3 1092 0) - (1 : Int)) = x48 → (0 ≤ x48 ∧ x48 < 24) ∧ (sv_R (S 60 x48) → (sv_R ((S 60 x48) - (1 : Int))) ∧ (∀ v55 : Int, (if x48 = x48 then ((S 60 x48) - (1 : Int)) else (S 60 x48)) = v55 → (sv_R v55 → (∀ x57 : Int, (((40 : Int) * x48) + v55) = x57 → (0 ≤ x57 ∧ x57 < 960) ∧ (sv_R (S 62 x57) → (1 ≤ (g3 1092 0) ∧ (g3 1092 0) ≤ 24 ∧ 0 ≤ (if ((g3 1092 0) - 1) = x48 then (S 62 x57) else (S 58 ((g3 1092 0) - 1))) ∧ (if ((g3 1092 0) - 1) = x48 then (S 62 x57) else (S 58 ((g3 1092 0) - 1))) ≤ 400 ∧ (if ((g3 1092 0) - 1) = x48 then (S 62 x57) else (S 58 ((g3 1092 0) - 1))) < 400) ∧ (∀ g64 : sv_S, ((g64 58 ((g3 1092 0) - 1)) = (if ((g3 1092 0) - 1) = x48 then (S 62 x57) else (S 58 ((g3 1092 0) - 1))) + 1 ∧ (g64 63 (400 * ((g3 1092 0) - 1) + (if ((g3 1092 0) - 1) = x48 then (S 62 x57) else (S 58 ((g3 1092 0) - 1))))) = p1 ∧ (g64 64 (400 * ((g3 1092 0) - 1) + (if ((g3 1092 0) - 1) = x48 then (S 62 x57) else (S 58 ((g3 1092 0) - 1))))) = p2 ∧ (∀ k : Int, ¬ k = (g3 1092 0) - 1 → (g64 58 k) = (if k = x48 then (S 62 x57) else (S 58 k))) ∧ (∀ k : Int, ¬ k = (400 * ((g3 1092 0) - 1) + (if ((g3 1092 0) - 1) = x48 then (S 62 x57) else (S 58 ((g3 1092 0) - 1)))) → (g64 63 k) = (S 63 k)) ∧ (∀ k : Int, ¬ k = (400 * ((g3 1092 0) - 1) + (if ((g3 1092 0) - 1) = x48 then (S 62 x57) else (S 58 ((g3 1092 0) - 1)))) → (g64 64 k) = (S 64 k))) → (sv_R (S 61 x57) → ((¬ (S 1075 0) = 0 → sm_LX (g64 58) (g64 63) (g64 64) (g3 1092 0) (S 1076 0)) ∧ ((S 1075 0) = 0 → (S 1073 0) = 1 → (S 1073 0) = 1 ∧ 1 ≤ (g3 1092 0) ∧ (g3 1092 0) ≤ 24 ∧ 0 ≤ (if ((g3 1092 0) - 1) = x48 then (S 61 x57) else (S 57 ((g3 1092 0) - 1))) ∧ (if ((g3 1092 0) - 1) = x48 then (S 61 x57) else (S 57 ((g3 1092 0) - 1))) < (S 1046 0) ∧ (S 29 (if ((g3 1092 0) - 1) = x48 then (S 61 x57) else (S 57 ((g3 1092 0) - 1)))) = (S 53 ((g3 1092 0) - 1)) ∧ 0 ≤ (S 53 ((g3 1092 0) - 1)) ∧ (S 53 ((g3 1092 0) - 1)) < (S 1032 0) ∧ (if ((g3 1092 0) - 1) = x48 then ((S 60 x48) - (1 : Int)) else (S 60 ((g3 1092 0) - 1))) = sm_dp (S 1100024) (S 1100023 (if ((g3 1092 0) - 1) = x48 then (S 61 x57) else (S 57 ((g3 1092 0) - 1)))) ∧ sm_TC (S 61) (S 62) (S 27) (S 1100007) (S 1100023) (S 1100024) (40 * ((g3 1092 0) - 1)) (S 1100023 (if ((g3 1092 0) - 1) = x48 then (S 61 x57) else (S 57 ((g3 1092 0) - 1)))) ∧ sm_LK (S 1100029) (S 1076 0) (S 54 ((g3 1092 0) - 1)) (S 53 ((g3 1092 0) - 1)) ∧ sm_VO (S 44) (S 1076 0) (S 1007 0) ((S 55 ((g3 1092 0) - 1))) ((S 56 ((g3 1092 0) - 1))) ∧ sm_FW (S 44) (S 1076 0) (S 59 ((g3 1092 0) - 1)) ∧ sm_FL (S 53) (S 54) (S 55) (S 56) (fun i' : Int => if i' = x48 then (S 61 x57) else (S 57) i') (g64 58) (S 59) (fun i' : Int => if i' = x48 then ((S 60 x48) - (1 : Int)) else (S 60) i') (S 61) (S 62) (g64 63) (g64 64) (S 27) (S 29) (S 1100007) (S 1100023) (S 1100024) (S 1100025) (S 26) (S 1100029) (S 44) (S 1046 0) (S 1032 0) (S 1076 0) (S 1007 0) (((g3 1092 0) - 1)) ∧ (g64 58 ((g3 1092 0) - 1)) = (S 1100007 (if ((g3 1092 0) - 1) = x48 then (S 61 x57) else (S 57 ((g3 1092 0) - 1)))) ∧ sm_SK (g64 63) (g64 64) (S 44) (S 1100007) (S 1100025) (S 1076 0) (S 1007 0) (400 * ((g3 1092 0) - 1)) ((g64 58 ((g3 1092 0) - 1))) ((S 1100025 (if ((g3 1092 0) - 1) = x48 then (S 61 x57) else (S 57 ((g3 1092 0) - 1)))))) ∧ ((S 1073 0) = (S 1073 0) ∨ ((S 1073 0) = 3 ∧ (g3 1092 0) = 0 ∧ (S 1075 0) = 0)) ∧ (g3 1092 0) ≤ (S 1092 0) ∧ (0 ≤ (S 1092 0) → 0 ≤ (g3 1092 0)))))))))))))) ∧ ((¬ (¬ (g3 1092 0) = (0 : Int))) → ((¬ (S 1075 0) = 0 → sm_LX (S 58) (S 63) (S 64) (g3 1092 0) (S 1076 0)) ∧ ((S 1075 0) = 0 → (3 : Int) = 1 → (S 1073 0) = 1 ∧ 1 ≤ (g3 1092 0) ∧ (g3 1092 0) ≤ 24 ∧ 0 ≤ (S 57 ((g3 1092 0) - 1)) ∧ (S 57 ((g3 1092 0) - 1)) < (S 1046 0) ∧ (S 29 (S 57 ((g3 1092 0) - 1))) = (S 53 ((g3 1092 0) - 1)) ∧ 0 ≤ (S 53 ((g3 1092 0) - 1)) ∧ (S 53 ((g3 1092 0) - 1)) < (S 1032 0) ∧ (S 60 ((g3 1092 0) - 1)) = sm_dp (S 1100024) (S 1100023 (S 57 ((g3 1092 0) - 1))) ∧ sm_TC (S 61) (S 62) (S 27) (S 1100007) (S 1100023) (S 1100024) (40 * ((g3 1092 0) - 1)) (S 1100023 (S 57 ((g3 1092 0) - 1))) ∧ sm_LK (S 1100029) (S 1076 0) (S 54 ((g3 1092 0) - 1)) (S 53 ((g3 1092 0) - 1)) ∧ sm_VO (S 44) (S 1076 0) (S 1007 0) ((S 55 ((g3 1092 0) - 1))) ((S 56 ((g3 1092 0) - 1))) ∧ sm_FW (S 44) (S 1076 0) (S 59 ((g3 1092 0) - 1)) ∧ sm_FL (S 53) (S 54) (S 55) (S 56) (S 57) (S 58) (S 59) (S 60) (S 61) (S 62) (S 63) (S 64) (S 27) (S 29) (S 1100007) (S 1100023) (S 1100024) (S 1100025) (S 26) (S 1100029) (S 44) (S 1046 0) (S 1032 0) (S 1076 0) (S 1007 0) (((g3 1092 0) - 1)) ∧ (S 58 ((g3 1092 0) - 1)) = (S 1100007 (S 57 ((g3 1092 0) - 1))) ∧ sm_SK (S 63) (S 64) (S 44) (S 1100007) (S 1100025) (S 1076 0) (S 1007 0) (400 * ((g3 1092 0) - 1)) ((S 58 ((g3 1092 0) - 1))) ((S 1100025 (S 57 ((g3 1092 0) - 1))))) ∧ ((3 : Int) = (S 1073 0) ∨ ((3 : Int) = 3 ∧ (g3 1092 0) = 0 ∧ (S 1075 0) = 0)) ∧ (g3 1092 0) ≤ (S 1092 0) ∧ (0 ≤ (S 1092 0) → 0 ≤ (g3 1092 0))))))) ∧ ((¬ (¬ (S 60 ((g3 1092 0) - (1 : Int))) = (0 : Int))) → (sv_R ((g3 1092 0) - (1 : Int))) ∧ ((sm_FL (S 53) (S 54) (S 55) (S 56) (S 57) (S 58) (S 59) (S 60) (S 61) (S 62) (S 63) (S 64) (S 27) (S 29) (S 1100007) (S 1100023) (S 1100024) (S 1100025) (S 26) (S 1100029) (S 44) (S 1046 0) (S 1032 0) (S 1076 0) (S 1007 0) (((S 1092 0) - 1)) → sm_CT (S 26) (S 27) (S 28) (S 29) (S 1100007) (S 1100023) (S 1100024) (S 1100025) (S 21) (S 1046 0) (S 1032 0) (S 1008 0) (S 1055 0) → sm_CL (S 1100007) (S 1100023) (S 1100025) (S 1046 0) → 0 ≤ ((g3 1092 0) - (1 : Int)) - 1 → ((g3 1092 0) - (1 : Int)) - 1 < (S 1092 0) - 1 → sm_FG (S 53) (S 54) (S 55) (S 56) (S 57) (S 58) (S 59) (S 60) (S 61) (S 62) (S 63) (S 64) (S 27) (S 29) (S 1100007) (S 1100023) (S 1100024) (S 1100025) (S 26) (S 1100029) (S 44) (S 1046 0) (S 1032 0) (S 1076 0) (S 1007 0) (((g3 1092 0) - (1 : Int)) - 1)) → ((0 ≤ ((g3 1092 0) - (1 : Int)) ∧ ((g3 1092 0) - (1 : Int)) ≤ (S 1092 0) ∧ (1 ≤ ((g3 1092 0) - (1 : Int)) → sm_FG (S 53) (S 54) (S 55) (S 56) (S 57) (S 58) (S 59) (S 60) (S 61) (S 62) (S 63) (S 64) (S 27) (S 29) (S 1100007) (S 1100023) (S 1100024) (S 1100025) (S 26) (S 1100029) (S 44) (S 1046 0) (S 1032 0) (S 1076 0) (S 1007 0) (((g3 1092 0) - (1 : Int)) - 1)) ∧ sm_FL (S 53) (S 54) (S 55) (S 56) (S 57) (S 58) (S 59) (S 60) (S 61) (S 62) (S 63) (S 64) (S 27) (S 29) (S 1100007) (S 1100023) (S 1100024) (S 1100025) (S 26) (S 1100029) (S 44) (S 1046 0) (S 1032 0) (S 1076 0) (S 1007 0) ((((g3 1092 0) - (1 : Int)) - 1))) ∧ (((g3 1092 0) - (1 : Int))) < ((g3 1092 0))))))))))))) ∧ ((¬ ((S 1075 0) = (0 : Int))) → ((¬ (S 1075 0) = 0 → sm_LX (S 58) (S 63) (S 64) (S 1092 0) (S 1076 0)) ∧ ((S 1075 0) = 0 → (S 1073 0) = 1 → (S 1073 0) = 1 ∧ 1 ≤ (S 1092 0) ∧ (S 1092 0) ≤ 24 ∧ 0 ≤ (S 57 ((S 1092 0) - 1)) ∧ (S 57 ((S 1092 0) - 1)) < (S 1046 0) ∧ (S 29 (S 57 ((S 1092 0) - 1))) = (S 53 ((S 1092 0) - 1)) ∧ 0 ≤ (S 53 ((S 1092 0) - 1)) ∧ (S 53 ((S 1092 0) - 1)) < (S 1032 0) ∧ (S 60 ((S 1092 0) - 1)) = sm_dp (S 1100024) (S 1100023 (S 57 ((S 1092 0) - 1))) ∧ sm_TC (S 61) (S 62) (S 27) (S 1100007) (S 1100023) (S 1100024) (40 * ((S 1092 0) - 1)) (S 1100023 (S 57 ((S 1092 0) - 1))) ∧ sm_LK (S 1100029) (S 1076 0) (S 54 ((S 1092 0) - 1)) (S 53 ((S 1092 0) - 1)) ∧ sm_VO (S 44) (S 1076 0) (S 1007 0) ((S 55 ((S 1092 0) - 1))) ((S 56 ((S 1092 0) - 1))) ∧ sm_FW (S 44) (S 1076 0) (S 59 ((S 1092 0) - 1)) ∧ sm_FL (S 53) (S 54) (S 55) (S 56) (S 57) (S 58) (S 59) (S 60) (S 61) (S 62) (S 63) (S 64) (S 27) (S 29) (S 1100007) (S 1100023) (S 1100024) (S 1100025) (S 26) (S 1100029) (S 44) (S 1046 0) (S 1032 0) (S 1076 0) (S 1007 0) (((S 1092 0) - 1)) ∧ (S 58 ((S 1092 0) - 1)) = (S 1100007 (S 57 ((S 1092 0) - 1))) ∧ sm_SK (S 63) (S 64) (S 44) (S 1100007) (S 1100025) (S 1076 0) (S 1007 0) (400 * ((S 1092 0) - 1)) ((S 58 ((S 1092 0) - 1))) ((S 1100025 (S 57 ((S 1092 0) - 1))))) ∧ ((S 1073 0) = (S 1073 0) ∨ ((S 1073 0) = 3 ∧ (S 1092 0) = 0 ∧ (S 1075 0) = 0)) ∧ (S 1092 0) ≤ (S 1092 0) ∧ (0 ≤ (S 1092 0) → 0 ≤ (S 1092 0))))))) := by
  intro p1
  intro p2
  intro S
  intro h1_
  intro h2_
  intro h3_
  rintro ⟨h4_, h5_⟩
  intro h6_
  rintro ⟨h7_, h8_⟩
  refine ⟨?_, ?_⟩
  · skip
    intro h9_
    obtain ⟨h10_, ⟨h11_, ⟨h12_, ⟨h13_, ⟨h14_, ⟨h15_, ⟨h16_, ⟨h17_, ⟨h18_, ⟨h19_, ⟨h20_, ⟨h21_, ⟨h22_, ⟨h23_, ⟨h24_, ⟨h25_, ⟨h26_, ⟨h27_, ⟨h28_, ⟨h29_, ⟨h30_, ⟨h31_, ⟨h32_, ⟨h33_, ⟨h34_, ⟨h35_, ⟨h36_, ⟨h37_, ⟨h38_, ⟨h39_, h40_⟩⟩⟩⟩⟩⟩⟩⟩⟩⟩⟩⟩⟩⟩⟩⟩⟩⟩⟩⟩⟩⟩⟩⟩⟩⟩⟩⟩⟩⟩ := (h5_ h9_)
    have h41_ := (h6_ h13_)
    have h42_ := (h41_ h15_)
    have h43_ := (h42_ (la_toss__1 h26_ h27_ h28_ h29_ h30_))
    have h44_ := (h43_ h31_)
    have h45_ := (h44_ h32_)
    have h46_ := (h45_ h38_)
    have h47_ := (h46_ h40_)
    have h48_ := (h47_ h33_)
    have h49_ := (h48_ h34_)
    have h50_ := (h49_ h35_)
    refine ⟨?_, ?_⟩
    · skip
      refine ⟨(la_toss__2 h24_), ?_⟩
      refine ⟨la_toss__3, ?_⟩
      refine ⟨?_, ?_⟩
      · skip
        intro h51_
        exact h50_
      exact h36_
    intro g3
    rintro ⟨h52_, ⟨h53_, ⟨h54_, h55_⟩⟩⟩
    refine ⟨h52_, ?_⟩
    intro h56_
    refine ⟨?_, ?_⟩
    · skip
      intro h57_
      intro h58_
      refine ⟨?_, ?_⟩
      · skip
        intro h59_
        intro h60_
        intro h61_
        have h62_ := (h61_ h13_)
        intro x13
        intro h63_
        refine ⟨(la_toss__6 h52_ (la_toss__5 h57_ h59_) h63_), ?_⟩
        intro h64_
        refine ⟨?_, ?_⟩
        · skip
          have e65_ : S 57 (g3 1092 0 - 1) = S 57 (S 1092 0 - 1) := congrArg ((S 57)) (la_toss__7 h24_ h52_ (la_toss__5 h57_ h59_))
          have e66_ : S 60 (g3 1092 0 - 1) = S 60 (S 1092 0 - 1) := congrArg ((S 60)) (la_toss__7 h24_ h52_ (la_toss__5 h57_ h59_))
          have e67_ : S 60 x13 = S 60 (S 1092 0 - 1) := congrArg ((S 60)) (la_toss__8 h24_ h52_ (la_toss__5 h57_ h59_) h63_)
          have e68_ : S 60 x13 = S 60 (g3 1092 0 - 1) := congrArg ((S 60)) (la_toss__9 h52_ (la_toss__5 h57_ h59_) h63_)
          have e69_ : S 1100023 (S 57 (g3 1092 0 - 1)) = S 1100023 (S 57 (S 1092 0 - 1)) := congrArg ((S 1100023)) e65_
          have e70_ : sm_dp (S 1100024) (S 1100023 (S 57 (g3 1092 0 - 1))) = sm_dp (S 1100024) (S 1100023 (S 57 (S 1092 0 - 1))) := congrArg ((sm_dp (S 1100024))) e69_
          exact ((la_toss__10 h52_ (la_toss__5 h57_ h59_))).elim
        intro v20
        intro h71_
        have e72_ : (if x13 = x13 then S 60 x13 - 1 else S 60 x13 : Int) = S 60 x13 - 1 := if_pos la_toss__11
        intro h73_
        intro x22
        intro h74_
        refine ⟨(la_toss__12 h52_ (la_toss__5 h57_ h59_)), ?_⟩
        intro h75_
        refine ⟨?_, ?_⟩
        · skip
          refine ⟨(la_toss__13 h52_ (la_toss__5 h57_ h59_)), ?_⟩
          refine ⟨(la_toss__14 (la_toss__5 h57_ h59_)), ?_⟩
          refine ⟨?_, ?_⟩
          · skip
            have e76_ : (if g3 1092 0 - 1 = x13 then S 62 x22 else S 58 (g3 1092 0 - 1) : Int) = S 62 x22 := if_pos h63_
            have e77_ : S 57 (g3 1092 0 - 1) = S 57 (S 1092 0 - 1) := congrArg ((S 57)) (la_toss__7 h24_ h52_ (la_toss__5 h57_ h59_))
            have e78_ : S 58 (g3 1092 0 - 1) = S 58 (S 1092 0 - 1) := congrArg ((S 58)) (la_toss__7 h24_ h52_ (la_toss__5 h57_ h59_))
            have e79_ : S 60 (g3 1092 0 - 1) = S 60 (S 1092 0 - 1) := congrArg ((S 60)) (la_toss__7 h24_ h52_ (la_toss__5 h57_ h59_))
            have e80_ : S 60 x13 = S 60 (S 1092 0 - 1) := congrArg ((S 60)) (la_toss__8 h24_ h52_ (la_toss__5 h57_ h59_) h63_)
            have e81_ : S 60 x13 = S 60 (g3 1092 0 - 1) := congrArg ((S 60)) (la_toss__15 h63_)
            have e82_ : sm_dp (S 1100024) (S 1100023 (S 57 (g3 1092 0 - 1))) = sm_dp (S 1100024) (S 1100023 (S 57 (S 1092 0 - 1))) := congrArg ((sm_dp (S 1100024))) (la_toss__16 h52_ (la_toss__5 h57_ h59_))
            have e83_ : S 1100023 (S 57 (g3 1092 0 - 1)) = S 1100023 (S 57 (S 1092 0 - 1)) := congrArg ((S 1100023)) e77_
            have e84_ : S 1100007 (S 57 (S 1092 0 - 1)) = S 1100007 (S 1100023 (S 57 (S 1092 0 - 1))) := congrArg ((S 1100007)) (la_toss__16 h52_ (la_toss__5 h57_ h59_))
            exact ((la_toss__10 h52_ (la_toss__5 h57_ h59_))).elim
          refine ⟨?_, ?_⟩
          · skip
            have e85_ : (if g3 1092 0 - 1 = x13 then S 62 x22 else S 58 (g3 1092 0 - 1) : Int) = S 62 x22 := if_pos h63_
            have e86_ : S 57 (g3 1092 0 - 1) = S 57 (S 1092 0 - 1) := congrArg ((S 57)) (la_toss__7 h24_ h52_ (la_toss__5 h57_ h59_))
            have e87_ : S 58 (g3 1092 0 - 1) = S 58 (S 1092 0 - 1) := congrArg ((S 58)) (la_toss__7 h24_ h52_ (la_toss__5 h57_ h59_))
            have e88_ : S 60 (g3 1092 0 - 1) = S 60 (S 1092 0 - 1) := congrArg ((S 60)) (la_toss__7 h24_ h52_ (la_toss__5 h57_ h59_))
            have e89_ : S 60 x13 = S 60 (S 1092 0 - 1) := congrArg ((S 60)) (la_toss__8 h24_ h52_ (la_toss__5 h57_ h59_) h63_)
            have e90_ : S 60 x13 = S 60 (g3 1092 0 - 1) := congrArg ((S 60)) (la_toss__15 h63_)
            have e91_ : sm_dp (S 1100024) (S 1100023 (S 57 (g3 1092 0 - 1))) = sm_dp (S 1100024) (S 1100023 (S 57 (S 1092 0 - 1))) := congrArg ((sm_dp (S 1100024))) (la_toss__16 h52_ (la_toss__5 h57_ h59_))
            have e92_ : S 1100023 (S 57 (g3 1092 0 - 1)) = S 1100023 (S 57 (S 1092 0 - 1)) := congrArg ((S 1100023)) e86_
            have e93_ : S 1100007 (S 57 (S 1092 0 - 1)) = S 1100007 (S 1100023 (S 57 (S 1092 0 - 1))) := congrArg ((S 1100007)) (la_toss__16 h52_ (la_toss__5 h57_ h59_))
            exact ((la_toss__10 h52_ (la_toss__5 h57_ h59_))).elim
          have e94_ : (if g3 1092 0 - 1 = x13 then S 62 x22 else S 58 (g3 1092 0 - 1) : Int) = S 62 x22 := if_pos h63_
          have e95_ : S 57 (g3 1092 0 - 1) = S 57 (S 1092 0 - 1) := congrArg ((S 57)) (la_toss__7 h24_ h52_ (la_toss__5 h57_ h59_))
          have e96_ : S 58 (g3 1092 0 - 1) = S 58 (S 1092 0 - 1) := congrArg ((S 58)) (la_toss__7 h24_ h52_ (la_toss__5 h57_ h59_))
          have e97_ : S 60 (g3 1092 0 - 1) = S 60 (S 1092 0 - 1) := congrArg ((S 60)) (la_toss__7 h24_ h52_ (la_toss__5 h57_ h59_))
          have e98_ : S 60 x13 = S 60 (S 1092 0 - 1) := congrArg ((S 60)) (la_toss__8 h24_ h52_ (la_toss__5 h57_ h59_) h63_)
          have e99_ : S 60 x13 = S 60 (g3 1092 0 - 1) := congrArg ((S 60)) (la_toss__15 h63_)
          have e100_ : sm_dp (S 1100024) (S 1100023 (S 57 (g3 1092 0 - 1))) = sm_dp (S 1100024) (S 1100023 (S 57 (S 1092 0 - 1))) := congrArg ((sm_dp (S 1100024))) (la_toss__16 h52_ (la_toss__5 h57_ h59_))
          have e101_ : S 1100023 (S 57 (g3 1092 0 - 1)) = S 1100023 (S 57 (S 1092 0 - 1)) := congrArg ((S 1100023)) e95_
          have e102_ : S 1100007 (S 57 (S 1092 0 - 1)) = S 1100007 (S 1100023 (S 57 (S 1092 0 - 1))) := congrArg ((S 1100007)) (la_toss__16 h52_ (la_toss__5 h57_ h59_))
          exact ((la_toss__10 h52_ (la_toss__5 h57_ h59_))).elim
        intro g29
        rintro ⟨h103_, ⟨h104_, ⟨h105_, ⟨h106_, ⟨h107_, h108_⟩⟩⟩⟩⟩
        have e109_ : (if g3 1092 0 - 1 = x13 then S 62 x22 else S 58 (g3 1092 0 - 1) : Int) = S 62 x22 := if_pos h63_
        intro h110_
        refine ⟨?_, ?_⟩
        · skip
          intro h111_
          exact (sm_LX_0 h57_)
        refine ⟨?_, ?_⟩
        · skip
          intro h112_
          intro h113_
          refine ⟨h113_, ?_⟩
          refine ⟨(la_toss__13 h52_ (la_toss__5 h57_ h59_)), ?_⟩
          refine ⟨(la_toss__14 (la_toss__5 h57_ h59_)), ?_⟩
          refine ⟨?_, ?_⟩
          · skip
            have h114_ := (h106_ (g3 1092 0 - 1))
            have h115_ := ((h106_ (S 1092 0 - 1)) (la_toss__18 h24_ (la_toss__5 h57_ h59_)))
            have h116_ := (h107_ (400 * (g3 1092 0 - 1) + (if g3 1092 0 - 1 = x13 then S 62 x22 else S 58 (g3 1092 0 - 1))))
            have h117_ := (h108_ (400 * (g3 1092 0 - 1) + (if g3 1092 0 - 1 = x13 then S 62 x22 else S 58 (g3 1092 0 - 1))))
            have e118_ : (if S 1092 0 - 1 = x13 then S 62 x22 else S 58 (S 1092 0 - 1) : Int) = S 62 x22 := if_pos (la_toss__19 h24_ h52_ (la_toss__5 h57_ h59_) h63_)
            have e119_ : (if g3 1092 0 - 1 = x13 then S 61 x22 else S 57 (g3 1092 0 - 1) : Int) = S 61 x22 := if_pos h63_
            obtain ⟨h120_, h121_⟩ := ((sm_VO_e h39_).2.2.1 (la_toss__20 h52_ (la_toss__5 h57_ h59_)))
            obtain ⟨h122_, ⟨h123_, h124_⟩⟩ := ((sm_VO_e h39_).2.2.2 (la_toss__21 (sm_VO_e h39_).2.1 h52_ (la_toss__5 h57_ h59_)))
            have e125_ : S 57 (g3 1092 0 - 1) = S 57 (S 1092 0 - 1) := congrArg ((S 57)) (la_toss__7 h24_ h52_ (la_toss__5 h57_ h59_))
            have e126_ : S 58 (g3 1092 0 - 1) = S 58 (S 1092 0 - 1) := congrArg ((S 58)) (la_toss__7 h24_ h52_ (la_toss__5 h57_ h59_))
            have e127_ : S 60 (g3 1092 0 - 1) = S 60 (S 1092 0 - 1) := congrArg ((S 60)) (la_toss__7 h24_ h52_ (la_toss__5 h57_ h59_))
            have e128_ : S 60 x13 = S 60 (S 1092 0 - 1) := congrArg ((S 60)) (la_toss__8 h24_ h52_ (la_toss__5 h57_ h59_) h63_)
            have e129_ : S 60 x13 = S 60 (g3 1092 0 - 1) := congrArg ((S 60)) (la_toss__15 h63_)
            have e130_ : g29 58 (g3 1092 0 - 1) = g29 58 (S 1092 0 - 1) := congrArg ((g29 58)) (la_toss__7 h24_ h52_ (la_toss__5 h57_ h59_))
            have e131_ : sm_dp (S 1100024) (S 1100023 (S 57 (g3 1092 0 - 1))) = sm_dp (S 1100024) (S 1100023 (S 57 (S 1092 0 - 1))) := congrArg ((sm_dp (S 1100024))) (la_toss__16 h52_ (la_toss__5 h57_ h59_))
            have e132_ : S 1100023 (S 57 (g3 1092 0 - 1)) = S 1100023 (S 57 (S 1092 0 - 1)) := congrArg ((S 1100023)) e125_
            have e133_ : S 1100007 (S 57 (S 1092 0 - 1)) = S 1100007 (S 1100023 (S 57 (S 1092 0 - 1))) := congrArg ((S 1100007)) (la_toss__16 h52_ (la_toss__5 h57_ h59_))
            exact ((la_toss__10 h52_ (la_toss__5 h57_ h59_))).elim
          refine ⟨?_, ?_⟩
          · skip
            have h134_ := (h106_ (g3 1092 0 - 1))
            have h135_ := ((h106_ (S 1092 0 - 1)) (la_toss__18 h24_ (la_toss__5 h57_ h59_)))
            have h136_ := (h107_ (400 * (g3 1092 0 - 1) + (if g3 1092 0 - 1 = x13 then S 62 x22 else S 58 (g3 1092 0 - 1))))
            have h137_ := (h108_ (400 * (g3 1092 0 - 1) + (if g3 1092 0 - 1 = x13 then S 62 x22 else S 58 (g3 1092 0 - 1))))
            have e138_ : (if S 1092 0 - 1 = x13 then S 62 x22 else S 58 (S 1092 0 - 1) : Int) = S 62 x22 := if_pos (la_toss__19 h24_ h52_ (la_toss__5 h57_ h59_) h63_)
            have e139_ : (if g3 1092 0 - 1 = x13 then S 61 x22 else S 57 (g3 1092 0 - 1) : Int) = S 61 x22 := if_pos h63_
            obtain ⟨h140_, h141_⟩ := ((sm_VO_e h39_).2.2.1 (la_toss__20 h52_ (la_toss__5 h57_ h59_)))
            obtain ⟨h142_, ⟨h143_, h144_⟩⟩ := ((sm_VO_e h39_).2.2.2 (la_toss__21 (sm_VO_e h39_).2.1 h52_ (la_toss__5 h57_ h59_)))
            have e145_ : S 57 (g3 1092 0 - 1) = S 57 (S 1092 0 - 1) := congrArg ((S 57)) (la_toss__7 h24_ h52_ (la_toss__5 h57_ h59_))
            have e146_ : S 58 (g3 1092 0 - 1) = S 58 (S 1092 0 - 1) := congrArg ((S 58)) (la_toss__7 h24_ h52_ (la_toss__5 h57_ h59_))
            have e147_ : S 60 (g3 1092 0 - 1) = S 60 (S 1092 0 - 1) := congrArg ((S 60)) (la_toss__7 h24_ h52_ (la_toss__5 h57_ h59_))
            have e148_ : S 60 x13 = S 60 (S 1092 0 - 1) := congrArg ((S 60)) (la_toss__8 h24_ h52_ (la_toss__5 h57_ h59_) h63_)
            have e149_ : S 60 x13 = S 60 (g3 1092 0 - 1) := congrArg ((S 60)) (la_toss__15 h63_)
            have e150_ : g29 58 (g3 1092 0 - 1) = g29 58 (S 1092 0 - 1) := congrArg ((g29 58)) (la_toss__7 h24_ h52_ (la_toss__5 h57_ h59_))
            have e151_ : sm_dp (S 1100024) (S 1100023 (S 57 (g3 1092 0 - 1))) = sm_dp (S 1100024) (S 1100023 (S 57 (S 1092 0 - 1))) := congrArg ((sm_dp (S 1100024))) (la_toss__16 h52_ (la_toss__5 h57_ h59_))
            have e152_ : S 1100023 (S 57 (g3 1092 0 - 1)) = S 1100023 (S 57 (S 1092 0 - 1)) := congrArg ((S 1100023)) e145_
            have e153_ : S 1100007 (S 57 (S 1092 0 - 1)) = S 1100007 (S 1100023 (S 57 (S 1092 0 - 1))) := congrArg ((S 1100007)) (la_toss__16 h52_ (la_toss__5 h57_ h59_))
            exact ((la_toss__10 h52_ (la_toss__5 h57_ h59_))).elim
          refine ⟨?_, ?_⟩
          · skip
            have h154_ := (h106_ (g3 1092 0 - 1))
            have h155_ := ((h106_ (S 1092 0 - 1)) (la_toss__18 h24_ (la_toss__5 h57_ h59_)))
            have h156_ := (h107_ (400 * (g3 1092 0 - 1) + (if g3 1092 0 - 1 = x13 then S 62 x22 else S 58 (g3 1092 0 - 1))))
            have h157_ := (h108_ (400 * (g3 1092 0 - 1) + (if g3 1092 0 - 1 = x13 then S 62 x22 else S 58 (g3 1092 0 - 1))))
            have e158_ : (if S 1092 0 - 1 = x13 then S 62 x22 else S 58 (S 1092 0 - 1) : Int) = S 62 x22 := if_pos (la_toss__19 h24_ h52_ (la_toss__5 h57_ h59_) h63_)
            have e159_ : (if g3 1092 0 - 1 = x13 then S 61 x22 else S 57 (g3 1092 0 - 1) : Int) = S 61 x22 := if_pos h63_
            obtain ⟨h160_, h161_⟩ := ((sm_VO_e h39_).2.2.1 (la_toss__20 h52_ (la_toss__5 h57_ h59_)))
            obtain ⟨h162_, ⟨h163_, h164_⟩⟩ := ((sm_VO_e h39_).2.2.2 (la_toss__21 (sm_VO_e h39_).2.1 h52_ (la_toss__5 h57_ h59_)))
            have e165_ : S 53 (g3 1092 0 - 1) = S 53 (S 1092 0 - 1) := congrArg ((S 53)) (la_toss__7 h24_ h52_ (la_toss__5 h57_ h59_))
            have e166_ : S 57 (g3 1092 0 - 1) = S 57 (S 1092 0 - 1) := congrArg ((S 57)) (la_toss__7 h24_ h52_ (la_toss__5 h57_ h59_))
            have e167_ : S 58 (g3 1092 0 - 1) = S 58 (S 1092 0 - 1) := congrArg ((S 58)) (la_toss__7 h24_ h52_ (la_toss__5 h57_ h59_))
            have e168_ : S 60 (g3 1092 0 - 1) = S 60 (S 1092 0 - 1) := congrArg ((S 60)) (la_toss__7 h24_ h52_ (la_toss__5 h57_ h59_))
            have e169_ : S 60 x13 = S 60 (S 1092 0 - 1) := congrArg ((S 60)) (la_toss__8 h24_ h52_ (la_toss__5 h57_ h59_) h63_)
            have e170_ : S 60 x13 = S 60 (g3 1092 0 - 1) := congrArg ((S 60)) (la_toss__15 h63_)
            have e171_ : g29 58 (g3 1092 0 - 1) = g29 58 (S 1092 0 - 1) := congrArg ((g29 58)) (la_toss__7 h24_ h52_ (la_toss__5 h57_ h59_))
            have e172_ : sm_dp (S 1100024) (S 1100023 (S 57 (g3 1092 0 - 1))) = sm_dp (S 1100024) (S 1100023 (S 57 (S 1092 0 - 1))) := congrArg ((sm_dp (S 1100024))) (la_toss__16 h52_ (la_toss__5 h57_ h59_))
            have e173_ : S 1100023 (S 57 (g3 1092 0 - 1)) = S 1100023 (S 57 (S 1092 0 - 1)) := congrArg ((S 1100023)) e166_
            have e174_ : S 1100007 (S 57 (S 1092 0 - 1)) = S 1100007 (S 1100023 (S 57 (S 1092 0 - 1))) := congrArg ((S 1100007)) (la_toss__16 h52_ (la_toss__5 h57_ h59_))
            exact ((la_toss__10 h52_ (la_toss__5 h57_ h59_))).elim
          refine ⟨?_, ?_⟩
          · skip
            have h175_ := (h106_ (g3 1092 0 - 1))
            have h176_ := ((h106_ (S 1092 0 - 1)) (la_toss__18 h24_ (la_toss__5 h57_ h59_)))
            have h177_ := (h107_ (400 * (g3 1092 0 - 1) + (if g3 1092 0 - 1 = x13 then S 62 x22 else S 58 (g3 1092 0 - 1))))
            have h178_ := (h108_ (400 * (g3 1092 0 - 1) + (if g3 1092 0 - 1 = x13 then S 62 x22 else S 58 (g3 1092 0 - 1))))
            have e179_ : (if S 1092 0 - 1 = x13 then S 62 x22 else S 58 (S 1092 0 - 1) : Int) = S 62 x22 := if_pos (la_toss__19 h24_ h52_ (la_toss__5 h57_ h59_) h63_)
            obtain ⟨h180_, h181_⟩ := ((sm_VO_e h39_).2.2.1 (la_toss__20 h52_ (la_toss__5 h57_ h59_)))
            obtain ⟨h182_, ⟨h183_, h184_⟩⟩ := ((sm_VO_e h39_).2.2.2 (la_toss__21 (sm_VO_e h39_).2.1 h52_ (la_toss__5 h57_ h59_)))
            have e185_ : S 53 (g3 1092 0 - 1) = S 53 (S 1092 0 - 1) := congrArg ((S 53)) (la_toss__7 h24_ h52_ (la_toss__5 h57_ h59_))
            have e186_ : S 57 (g3 1092 0 - 1) = S 57 (S 1092 0 - 1) := congrArg ((S 57)) (la_toss__7 h24_ h52_ (la_toss__5 h57_ h59_))
            have e187_ : S 58 (g3 1092 0 - 1) = S 58 (S 1092 0 - 1) := congrArg ((S 58)) (la_toss__7 h24_ h52_ (la_toss__5 h57_ h59_))
            have e188_ : S 60 (g3 1092 0 - 1) = S 60 (S 1092 0 - 1) := congrArg ((S 60)) (la_toss__7 h24_ h52_ (la_toss__5 h57_ h59_))
            have e189_ : S 60 x13 = S 60 (S 1092 0 - 1) := congrArg ((S 60)) (la_toss__8 h24_ h52_ (la_toss__5 h57_ h59_) h63_)
            have e190_ : S 60 x13 = S 60 (g3 1092 0 - 1) := congrArg ((S 60)) (la_toss__15 h63_)
            have e191_ : g29 58 (g3 1092 0 - 1) = g29 58 (S 1092 0 - 1) := congrArg ((g29 58)) (la_toss__7 h24_ h52_ (la_toss__5 h57_ h59_))
            have e192_ : sm_dp (S 1100024) (S 1100023 (S 57 (g3 1092 0 - 1))) = sm_dp (S 1100024) (S 1100023 (S 57 (S 1092 0 - 1))) := congrArg ((sm_dp (S 1100024))) (la_toss__16 h52_ (la_toss__5 h57_ h59_))
            exact (la_toss__24 h29_ e185_)
          refine ⟨?_, ?_⟩
          · skip
            have h193_ := (h106_ (g3 1092 0 - 1))
            have h194_ := ((h106_ (S 1092 0 - 1)) (la_toss__18 h24_ (la_toss__5 h57_ h59_)))
            have h195_ := (h107_ (400 * (g3 1092 0 - 1) + (if g3 1092 0 - 1 = x13 then S 62 x22 else S 58 (g3 1092 0 - 1))))
            have h196_ := (h108_ (400 * (g3 1092 0 - 1) + (if g3 1092 0 - 1 = x13 then S 62 x22 else S 58 (g3 1092 0 - 1))))
            have e197_ : (if S 1092 0 - 1 = x13 then S 62 x22 else S 58 (S 1092 0 - 1) : Int) = S 62 x22 := if_pos (la_toss__19 h24_ h52_ (la_toss__5 h57_ h59_) h63_)
            obtain ⟨h198_, h199_⟩ := ((sm_VO_e h39_).2.2.1 (la_toss__20 h52_ (la_toss__5 h57_ h59_)))
            obtain ⟨h200_, ⟨h201_, h202_⟩⟩ := ((sm_VO_e h39_).2.2.2 (la_toss__21 (sm_VO_e h39_).2.1 h52_ (la_toss__5 h57_ h59_)))
            have e203_ : S 53 (g3 1092 0 - 1) = S 53 (S 1092 0 - 1) := congrArg ((S 53)) (la_toss__7 h24_ h52_ (la_toss__5 h57_ h59_))
            have e204_ : S 57 (g3 1092 0 - 1) = S 57 (S 1092 0 - 1) := congrArg ((S 57)) (la_toss__7 h24_ h52_ (la_toss__5 h57_ h59_))
            have e205_ : S 58 (g3 1092 0 - 1) = S 58 (S 1092 0 - 1) := congrArg ((S 58)) (la_toss__7 h24_ h52_ (la_toss__5 h57_ h59_))
            have e206_ : S 60 (g3 1092 0 - 1) = S 60 (S 1092 0 - 1) := congrArg ((S 60)) (la_toss__7 h24_ h52_ (la_toss__5 h57_ h59_))
            have e207_ : S 60 x13 = S 60 (S 1092 0 - 1) := congrArg ((S 60)) (la_toss__8 h24_ h52_ (la_toss__5 h57_ h59_) h63_)
            have e208_ : S 60 x13 = S 60 (g3 1092 0 - 1) := congrArg ((S 60)) (la_toss__15 h63_)
            have e209_ : g29 58 (g3 1092 0 - 1) = g29 58 (S 1092 0 - 1) := congrArg ((g29 58)) (la_toss__7 h24_ h52_ (la_toss__5 h57_ h59_))
            have e210_ : sm_dp (S 1100024) (S 1100023 (S 57 (g3 1092 0 - 1))) = sm_dp (S 1100024) (S 1100023 (S 57 (S 1092 0 - 1))) := congrArg ((sm_dp (S 1100024))) (la_toss__16 h52_ (la_toss__5 h57_ h59_))
            exact (la_toss__25 h30_ e203_)
          refine ⟨?_, ?_⟩
          · skip
            have h211_ := (h106_ (g3 1092 0 - 1))
            have h212_ := ((h106_ (S 1092 0 - 1)) (la_toss__18 h24_ (la_toss__5 h57_ h59_)))
            have h213_ := (h107_ (400 * (g3 1092 0 - 1) + (if g3 1092 0 - 1 = x13 then S 62 x22 else S 58 (g3 1092 0 - 1))))
            have h214_ := (h108_ (400 * (g3 1092 0 - 1) + (if g3 1092 0 - 1 = x13 then S 62 x22 else S 58 (g3 1092 0 - 1))))
            have e215_ : (if g3 1092 0 - 1 = x13 then S 61 x22 else S 57 (g3 1092 0 - 1) : Int) = S 61 x22 := if_pos h63_
            have e216_ : (if S 1092 0 - 1 = x13 then S 62 x22 else S 58 (S 1092 0 - 1) : Int) = S 62 x22 := if_pos (la_toss__19 h24_ h52_ (la_toss__5 h57_ h59_) h63_)
            have e217_ : (if g3 1092 0 - 1 = x13 then S 60 x13 - 1 else S 60 (g3 1092 0 - 1) : Int) = S 60 x13 - 1 := if_pos h63_
            obtain ⟨h218_, h219_⟩ := ((sm_VO_e h39_).2.2.1 (la_toss__20 h52_ (la_toss__5 h57_ h59_)))
            obtain ⟨h220_, ⟨h221_, h222_⟩⟩ := ((sm_VO_e h39_).2.2.2 (la_toss__21 (sm_VO_e h39_).2.1 h52_ (la_toss__5 h57_ h59_)))
            have e223_ : S 57 (g3 1092 0 - 1) = S 57 (S 1092 0 - 1) := congrArg ((S 57)) (la_toss__7 h24_ h52_ (la_toss__5 h57_ h59_))
            have e224_ : S 58 (g3 1092 0 - 1) = S 58 (S 1092 0 - 1) := congrArg ((S 58)) (la_toss__7 h24_ h52_ (la_toss__5 h57_ h59_))
            have e225_ : S 60 (g3 1092 0 - 1) = S 60 (S 1092 0 - 1) := congrArg ((S 60)) (la_toss__7 h24_ h52_ (la_toss__5 h57_ h59_))
            have e226_ : S 60 x13 = S 60 (S 1092 0 - 1) := congrArg ((S 60)) (la_toss__8 h24_ h52_ (la_toss__5 h57_ h59_) h63_)
            have e227_ : S 60 x13 = S 60 (g3 1092 0 - 1) := congrArg ((S 60)) (la_toss__15 h63_)
            have e228_ : g29 58 (g3 1092 0 - 1) = g29 58 (S 1092 0 - 1) := congrArg ((g29 58)) (la_toss__7 h24_ h52_ (la_toss__5 h57_ h59_))
            have e229_ : sm_dp (S 1100024) (S 1100023 (S 57 (g3 1092 0 - 1))) = sm_dp (S 1100024) (S 1100023 (S 57 (S 1092 0 - 1))) := congrArg ((sm_dp (S 1100024))) (la_toss__16 h52_ (la_toss__5 h57_ h59_))
            have e230_ : sm_dp (S 1100024) (S 1100023 (if g3 1092 0 - 1 = x13 then S 61 x22 else S 57 (g3 1092 0 - 1))) = sm_dp (S 1100024) (S 1100023 (S 57 (g3 1092 0 - 1))) := congrArg ((sm_dp (S 1100024))) (la_toss__16 h52_ (la_toss__5 h57_ h59_))
            exact (la_toss__26 h31_ h52_ (la_toss__5 h57_ h59_) e217_ e226_ e229_ e230_)
          refine ⟨?_, ?_⟩
          · skip
            have h231_ := (h106_ (g3 1092 0 - 1))
            have h232_ := ((h106_ (S 1092 0 - 1)) (la_toss__18 h24_ (la_toss__5 h57_ h59_)))
            have h233_ := (h107_ (400 * (g3 1092 0 - 1) + (if g3 1092 0 - 1 = x13 then S 62 x22 else S 58 (g3 1092 0 - 1))))
            have h234_ := (h108_ (400 * (g3 1092 0 - 1) + (if g3 1092 0 - 1 = x13 then S 62 x22 else S 58 (g3 1092 0 - 1))))
            have e235_ : (if S 1092 0 - 1 = x13 then S 62 x22 else S 58 (S 1092 0 - 1) : Int) = S 62 x22 := if_pos (la_toss__19 h24_ h52_ (la_toss__5 h57_ h59_) h63_)
            have e236_ : (if g3 1092 0 - 1 = x13 then S 61 x22 else S 57 (g3 1092 0 - 1) : Int) = S 61 x22 := if_pos h63_
            obtain ⟨h237_, h238_⟩ := ((sm_VO_e h39_).2.2.1 (la_toss__20 h52_ (la_toss__5 h57_ h59_)))
            obtain ⟨h239_, ⟨h240_, h241_⟩⟩ := ((sm_VO_e h39_).2.2.2 (la_toss__21 (sm_VO_e h39_).2.1 h52_ (la_toss__5 h57_ h59_)))
            have e242_ : S 57 (g3 1092 0 - 1) = S 57 (S 1092 0 - 1) := congrArg ((S 57)) (la_toss__7 h24_ h52_ (la_toss__5 h57_ h59_))
            have e243_ : S 58 (g3 1092 0 - 1) = S 58 (S 1092 0 - 1) := congrArg ((S 58)) (la_toss__7 h24_ h52_ (la_toss__5 h57_ h59_))
            have e244_ : S 60 (g3 1092 0 - 1) = S 60 (S 1092 0 - 1) := congrArg ((S 60)) (la_toss__7 h24_ h52_ (la_toss__5 h57_ h59_))
            have e245_ : S 60 x13 = S 60 (S 1092 0 - 1) := congrArg ((S 60)) (la_toss__8 h24_ h52_ (la_toss__5 h57_ h59_) h63_)
            have e246_ : S 60 x13 = S 60 (g3 1092 0 - 1) := congrArg ((S 60)) (la_toss__15 h63_)
            have e247_ : g29 58 (g3 1092 0 - 1) = g29 58 (S 1092 0 - 1) := congrArg ((g29 58)) (la_toss__7 h24_ h52_ (la_toss__5 h57_ h59_))
            have e248_ : sm_dp (S 1100024) (S 1100023 (S 57 (g3 1092 0 - 1))) = sm_dp (S 1100024) (S 1100023 (S 57 (S 1092 0 - 1))) := congrArg ((sm_dp (S 1100024))) (la_toss__16 h52_ (la_toss__5 h57_ h59_))
            have e249_ : S 1100023 (S 57 (g3 1092 0 - 1)) = S 1100023 (S 57 (S 1092 0 - 1)) := congrArg ((S 1100023)) e242_
            have e250_ : S 1100007 (S 57 (S 1092 0 - 1)) = S 1100007 (S 1100023 (S 57 (S 1092 0 - 1))) := congrArg ((S 1100007)) (la_toss__16 h52_ (la_toss__5 h57_ h59_))
            exact ((la_toss__10 h52_ (la_toss__5 h57_ h59_))).elim
          refine ⟨?_, ?_⟩
          · skip
            have h251_ := (h106_ (g3 1092 0 - 1))
            have h252_ := ((h106_ (S 1092 0 - 1)) (la_toss__18 h24_ (la_toss__5 h57_ h59_)))
            have h253_ := (h107_ (400 * (g3 1092 0 - 1) + (if g3 1092 0 - 1 = x13 then S 62 x22 else S 58 (g3 1092 0 - 1))))
            have h254_ := (h108_ (400 * (g3 1092 0 - 1) + (if g3 1092 0 - 1 = x13 then S 62 x22 else S 58 (g3 1092 0 - 1))))
            have e255_ : (if S 1092 0 - 1 = x13 then S 62 x22 else S 58 (S 1092 0 - 1) : Int) = S 62 x22 := if_pos (la_toss__19 h24_ h52_ (la_toss__5 h57_ h59_) h63_)
            obtain ⟨h256_, h257_⟩ := ((sm_VO_e h39_).2.2.1 (la_toss__20 h52_ (la_toss__5 h57_ h59_)))
            obtain ⟨h258_, ⟨h259_, h260_⟩⟩ := ((sm_VO_e h39_).2.2.2 (la_toss__21 (sm_VO_e h39_).2.1 h52_ (la_toss__5 h57_ h59_)))
            have e261_ : S 53 (g3 1092 0 - 1) = S 53 (S 1092 0 - 1) := congrArg ((S 53)) (la_toss__7 h24_ h52_ (la_toss__5 h57_ h59_))
            have e262_ : S 57 (g3 1092 0 - 1) = S 57 (S 1092 0 - 1) := congrArg ((S 57)) (la_toss__7 h24_ h52_ (la_toss__5 h57_ h59_))
            have e263_ : S 58 (g3 1092 0 - 1) = S 58 (S 1092 0 - 1) := congrArg ((S 58)) (la_toss__7 h24_ h52_ (la_toss__5 h57_ h59_))
            have e264_ : S 60 (g3 1092 0 - 1) = S 60 (S 1092 0 - 1) := congrArg ((S 60)) (la_toss__7 h24_ h52_ (la_toss__5 h57_ h59_))
            have e265_ : S 60 x13 = S 60 (S 1092 0 - 1) := congrArg ((S 60)) (la_toss__8 h24_ h52_ (la_toss__5 h57_ h59_) h63_)
            have e266_ : S 60 x13 = S 60 (g3 1092 0 - 1) := congrArg ((S 60)) (la_toss__15 h63_)
            have e267_ : g29 58 (g3 1092 0 - 1) = g29 58 (S 1092 0 - 1) := congrArg ((g29 58)) (la_toss__7 h24_ h52_ (la_toss__5 h57_ h59_))
            have e268_ : sm_dp (S 1100024) (S 1100023 (S 57 (g3 1092 0 - 1))) = sm_dp (S 1100024) (S 1100023 (S 57 (S 1092 0 - 1))) := congrArg ((sm_dp (S 1100024))) (la_toss__16 h52_ (la_toss__5 h57_ h59_))
            have e269_ : S 1100023 (S 57 (g3 1092 0 - 1)) = S 1100023 (S 57 (S 1092 0 - 1)) := congrArg ((S 1100023)) e262_
            have e270_ : S 1100007 (S 57 (S 1092 0 - 1)) = S 1100007 (S 1100023 (S 57 (S 1092 0 - 1))) := congrArg ((S 1100007)) (la_toss__16 h52_ (la_toss__5 h57_ h59_))
            have h271_ : sm_FG (S 53) (S 54) (S 55) (S 56) (S 57) (S 58) (S 59) (S 60) (S 61) (S 62) (S 63) (S 64) (S 27) (S 29) (S 1100007) (S 1100023) (S 1100024) (S 1100025) (S 26) (S 1100029) (S 44) (S 1046 0) (S 1032 0) (S 1076 0) (S 1007 0) (g3 1092 0 - 1) := by
              exact ((la_toss__10 h52_ (la_toss__5 h57_ h59_))).elim
            obtain ⟨⟨h272_, ⟨h273_, ⟨h274_, ⟨h275_, h276_⟩⟩⟩⟩, ⟨h277_, ⟨h278_, ⟨h279_, ⟨h280_, ⟨h281_, h282_⟩⟩⟩⟩⟩⟩ := (h58_ h271_)
            exact h280_
          refine ⟨?_, ?_⟩
          · skip
            have h283_ := (h106_ (g3 1092 0 - 1))
            have h284_ := ((h106_ (S 1092 0 - 1)) (la_toss__18 h24_ (la_toss__5 h57_ h59_)))
            have h285_ := (h107_ (400 * (g3 1092 0 - 1) + (if g3 1092 0 - 1 = x13 then S 62 x22 else S 58 (g3 1092 0 - 1))))
            have h286_ := (h108_ (400 * (g3 1092 0 - 1) + (if g3 1092 0 - 1 = x13 then S 62 x22 else S 58 (g3 1092 0 - 1))))
            have e287_ : (if S 1092 0 - 1 = x13 then S 62 x22 else S 58 (S 1092 0 - 1) : Int) = S 62 x22 := if_pos (la_toss__19 h24_ h52_ (la_toss__5 h57_ h59_) h63_)
            obtain ⟨h288_, h289_⟩ := ((sm_VO_e h39_).2.2.1 (la_toss__20 h52_ (la_toss__5 h57_ h59_)))
            obtain ⟨h290_, ⟨h291_, h292_⟩⟩ := ((sm_VO_e h39_).2.2.2 (la_toss__21 (sm_VO_e h39_).2.1 h52_ (la_toss__5 h57_ h59_)))
            have e293_ : S 55 (g3 1092 0 - 1) = S 55 (S 1092 0 - 1) := congrArg ((S 55)) (la_toss__7 h24_ h52_ (la_toss__5 h57_ h59_))
            have e294_ : S 56 (g3 1092 0 - 1) = S 56 (S 1092 0 - 1) := congrArg ((S 56)) (la_toss__7 h24_ h52_ (la_toss__5 h57_ h59_))
            have e295_ : S 57 (g3 1092 0 - 1) = S 57 (S 1092 0 - 1) := congrArg ((S 57)) (la_toss__7 h24_ h52_ (la_toss__5 h57_ h59_))
            have e296_ : S 58 (g3 1092 0 - 1) = S 58 (S 1092 0 - 1) := congrArg ((S 58)) (la_toss__7 h24_ h52_ (la_toss__5 h57_ h59_))
            have e297_ : S 60 (g3 1092 0 - 1) = S 60 (S 1092 0 - 1) := congrArg ((S 60)) (la_toss__7 h24_ h52_ (la_toss__5 h57_ h59_))
            have e298_ : S 60 x13 = S 60 (S 1092 0 - 1) := congrArg ((S 60)) (la_toss__8 h24_ h52_ (la_toss__5 h57_ h59_) h63_)
            have e299_ : S 60 x13 = S 60 (g3 1092 0 - 1) := congrArg ((S 60)) (la_toss__15 h63_)
            have e300_ : g29 58 (g3 1092 0 - 1) = g29 58 (S 1092 0 - 1) := congrArg ((g29 58)) (la_toss__7 h24_ h52_ (la_toss__5 h57_ h59_))
            have e301_ : sm_dp (S 1100024) (S 1100023 (S 57 (g3 1092 0 - 1))) = sm_dp (S 1100024) (S 1100023 (S 57 (S 1092 0 - 1))) := congrArg ((sm_dp (S 1100024))) (la_toss__16 h52_ (la_toss__5 h57_ h59_))
            exact (sm_VO_eq h34_ e293_ e294_)
          refine ⟨?_, ?_⟩
          · skip
            have h302_ := (h106_ (g3 1092 0 - 1))
            have h303_ := ((h106_ (S 1092 0 - 1)) (la_toss__18 h24_ (la_toss__5 h57_ h59_)))
            have h304_ := (h107_ (400 * (g3 1092 0 - 1) + (if g3 1092 0 - 1 = x13 then S 62 x22 else S 58 (g3 1092 0 - 1))))
            have h305_ := (h108_ (400 * (g3 1092 0 - 1) + (if g3 1092 0 - 1 = x13 then S 62 x22 else S 58 (g3 1092 0 - 1))))
            have e306_ : (if S 1092 0 - 1 = x13 then S 62 x22 else S 58 (S 1092 0 - 1) : Int) = S 62 x22 := if_pos (la_toss__19 h24_ h52_ (la_toss__5 h57_ h59_) h63_)
            obtain ⟨h307_, h308_⟩ := ((sm_VO_e h39_).2.2.1 (la_toss__20 h52_ (la_toss__5 h57_ h59_)))
            obtain ⟨h309_, ⟨h310_, h311_⟩⟩ := ((sm_VO_e h39_).2.2.2 (la_toss__21 (sm_VO_e h39_).2.1 h52_ (la_toss__5 h57_ h59_)))
            have e312_ : S 57 (g3 1092 0 - 1) = S 57 (S 1092 0 - 1) := congrArg ((S 57)) (la_toss__7 h24_ h52_ (la_toss__5 h57_ h59_))
            have e313_ : S 58 (g3 1092 0 - 1) = S 58 (S 1092 0 - 1) := congrArg ((S 58)) (la_toss__7 h24_ h52_ (la_toss__5 h57_ h59_))
            have e314_ : S 60 (g3 1092 0 - 1) = S 60 (S 1092 0 - 1) := congrArg ((S 60)) (la_toss__7 h24_ h52_ (la_toss__5 h57_ h59_))
            have e315_ : S 60 x13 = S 60 (S 1092 0 - 1) := congrArg ((S 60)) (la_toss__8 h24_ h52_ (la_toss__5 h57_ h59_) h63_)
            have e316_ : S 60 x13 = S 60 (g3 1092 0 - 1) := congrArg ((S 60)) (la_toss__15 h63_)
            have e317_ : g29 58 (g3 1092 0 - 1) = g29 58 (S 1092 0 - 1) := congrArg ((g29 58)) (la_toss__7 h24_ h52_ (la_toss__5 h57_ h59_))
            have e318_ : sm_dp (S 1100024) (S 1100023 (S 57 (g3 1092 0 - 1))) = sm_dp (S 1100024) (S 1100023 (S 57 (S 1092 0 - 1))) := congrArg ((sm_dp (S 1100024))) (la_toss__16 h52_ (la_toss__5 h57_ h59_))
            have e319_ : S 1100023 (S 57 (g3 1092 0 - 1)) = S 1100023 (S 57 (S 1092 0 - 1)) := congrArg ((S 1100023)) e312_
            have e320_ : S 1100007 (S 57 (S 1092 0 - 1)) = S 1100007 (S 1100023 (S 57 (S 1092 0 - 1))) := congrArg ((S 1100007)) (la_toss__16 h52_ (la_toss__5 h57_ h59_))
            have h321_ : sm_FG (S 53) (S 54) (S 55) (S 56) (S 57) (S 58) (S 59) (S 60) (S 61) (S 62) (S 63) (S 64) (S 27) (S 29) (S 1100007) (S 1100023) (S 1100024) (S 1100025) (S 26) (S 1100029) (S 44) (S 1046 0) (S 1032 0) (S 1076 0) (S 1007 0) (g3 1092 0 - 1) := by
              exact ((la_toss__10 h52_ (la_toss__5 h57_ h59_))).elim
            obtain ⟨⟨h322_, ⟨h323_, ⟨h324_, ⟨h325_, h326_⟩⟩⟩⟩, ⟨h327_, ⟨h328_, ⟨h329_, ⟨h330_, ⟨h331_, h332_⟩⟩⟩⟩⟩⟩ := (h58_ h321_)
            exact h332_
          refine ⟨(sm_FL_0 (la_toss__27 (la_toss__5 h57_ h59_))), ?_⟩
          refine ⟨?_, ?_⟩
          · skip
            have h333_ := (h106_ (g3 1092 0 - 1))
            have h334_ := ((h106_ (S 1092 0 - 1)) (la_toss__18 h24_ (la_toss__5 h57_ h59_)))
            have h335_ := (h107_ (400 * (g3 1092 0 - 1) + (if g3 1092 0 - 1 = x13 then S 62 x22 else S 58 (g3 1092 0 - 1))))
            have h336_ := (h108_ (400 * (g3 1092 0 - 1) + (if g3 1092 0 - 1 = x13 then S 62 x22 else S 58 (g3 1092 0 - 1))))
            have e337_ : (if S 1092 0 - 1 = x13 then S 62 x22 else S 58 (S 1092 0 - 1) : Int) = S 62 x22 := if_pos (la_toss__19 h24_ h52_ (la_toss__5 h57_ h59_) h63_)
            have e338_ : (if g3 1092 0 - 1 = x13 then S 61 x22 else S 57 (g3 1092 0 - 1) : Int) = S 61 x22 := if_pos h63_
            obtain ⟨h339_, h340_⟩ := ((sm_VO_e h39_).2.2.1 (la_toss__20 h52_ (la_toss__5 h57_ h59_)))
            obtain ⟨h341_, ⟨h342_, h343_⟩⟩ := ((sm_VO_e h39_).2.2.2 (la_toss__21 (sm_VO_e h39_).2.1 h52_ (la_toss__5 h57_ h59_)))
            have e344_ : S 57 (g3 1092 0 - 1) = S 57 (S 1092 0 - 1) := congrArg ((S 57)) (la_toss__7 h24_ h52_ (la_toss__5 h57_ h59_))
            have e345_ : S 58 (g3 1092 0 - 1) = S 58 (S 1092 0 - 1) := congrArg ((S 58)) (la_toss__7 h24_ h52_ (la_toss__5 h57_ h59_))
            have e346_ : S 60 (g3 1092 0 - 1) = S 60 (S 1092 0 - 1) := congrArg ((S 60)) (la_toss__7 h24_ h52_ (la_toss__5 h57_ h59_))
            have e347_ : S 60 x13 = S 60 (S 1092 0 - 1) := congrArg ((S 60)) (la_toss__8 h24_ h52_ (la_toss__5 h57_ h59_) h63_)
            have e348_ : S 60 x13 = S 60 (g3 1092 0 - 1) := congrArg ((S 60)) (la_toss__15 h63_)
            have e349_ : g29 58 (g3 1092 0 - 1) = g29 58 (S 1092 0 - 1) := congrArg ((g29 58)) (la_toss__7 h24_ h52_ (la_toss__5 h57_ h59_))
            have e350_ : sm_dp (S 1100024) (S 1100023 (S 57 (g3 1092 0 - 1))) = sm_dp (S 1100024) (S 1100023 (S 57 (S 1092 0 - 1))) := congrArg ((sm_dp (S 1100024))) (la_toss__16 h52_ (la_toss__5 h57_ h59_))
            exact (la_toss__28 h103_ e109_ h334_ e337_ e349_)
          have h351_ := (h106_ (g3 1092 0 - 1))
          have h352_ := ((h106_ (S 1092 0 - 1)) (la_toss__18 h24_ (la_toss__5 h57_ h59_)))
          have h353_ := (h107_ (400 * (g3 1092 0 - 1) + (if g3 1092 0 - 1 = x13 then S 62 x22 else S 58 (g3 1092 0 - 1))))
          have h354_ := (h108_ (400 * (g3 1092 0 - 1) + (if g3 1092 0 - 1 = x13 then S 62 x22 else S 58 (g3 1092 0 - 1))))
          have e355_ : (if S 1092 0 - 1 = x13 then S 62 x22 else S 58 (S 1092 0 - 1) : Int) = S 62 x22 := if_pos (la_toss__19 h24_ h52_ (la_toss__5 h57_ h59_) h63_)
          have e356_ : (if g3 1092 0 - 1 = x13 then S 61 x22 else S 57 (g3 1092 0 - 1) : Int) = S 61 x22 := if_pos h63_
          obtain ⟨h357_, h358_⟩ := ((sm_VO_e h39_).2.2.1 (la_toss__20 h52_ (la_toss__5 h57_ h59_)))
          obtain ⟨h359_, ⟨h360_, h361_⟩⟩ := ((sm_VO_e h39_).2.2.2 (la_toss__21 (sm_VO_e h39_).2.1 h52_ (la_toss__5 h57_ h59_)))
          have e362_ : S 57 (g3 1092 0 - 1) = S 57 (S 1092 0 - 1) := congrArg ((S 57)) (la_toss__7 h24_ h52_ (la_toss__5 h57_ h59_))
          have e363_ : S 58 (g3 1092 0 - 1) = S 58 (S 1092 0 - 1) := congrArg ((S 58)) (la_toss__7 h24_ h52_ (la_toss__5 h57_ h59_))
          have e364_ : S 60 (g3 1092 0 - 1) = S 60 (S 1092 0 - 1) := congrArg ((S 60)) (la_toss__7 h24_ h52_ (la_toss__5 h57_ h59_))
          have e365_ : S 60 x13 = S 60 (S 1092 0 - 1) := congrArg ((S 60)) (la_toss__8 h24_ h52_ (la_toss__5 h57_ h59_) h63_)
          have e366_ : S 60 x13 = S 60 (g3 1092 0 - 1) := congrArg ((S 60)) (la_toss__15 h63_)
          have e367_ : g29 58 (g3 1092 0 - 1) = g29 58 (S 1092 0 - 1) := congrArg ((g29 58)) (la_toss__7 h24_ h52_ (la_toss__5 h57_ h59_))
          have e368_ : sm_dp (S 1100024) (S 1100023 (S 57 (g3 1092 0 - 1))) = sm_dp (S 1100024) (S 1100023 (S 57 (S 1092 0 - 1))) := congrArg ((sm_dp (S 1100024))) (la_toss__16 h52_ (la_toss__5 h57_ h59_))
          exact (sm_SK_0 (la_toss__30 h103_ e109_ h352_ e355_ e367_))
        refine ⟨la_toss__31, ?_⟩
        refine ⟨h53_, ?_⟩
        intro h369_
        exact h52_
      intro h370_
      refine ⟨?_, ?_⟩
      · skip
        intro h371_
        exact (sm_LX_0 h57_)
      refine ⟨?_, ?_⟩
      · skip
        intro h372_
        intro h373_
        refine ⟨(la_toss__32 h373_), ?_⟩
        refine ⟨(la_toss__33 h373_), ?_⟩
        refine ⟨(la_toss__34 h373_), ?_⟩
        refine ⟨(la_toss__35 h373_), ?_⟩
        refine ⟨(la_toss__36 h373_), ?_⟩
        refine ⟨(la_toss__37 h373_), ?_⟩
        refine ⟨(la_toss__35 h373_), ?_⟩
        refine ⟨(la_toss__36 h373_), ?_⟩
        refine ⟨(la_toss__37 h373_), ?_⟩
        refine ⟨(sm_TC_0 (la_toss__38 h373_)), ?_⟩
        refine ⟨(sm_LK_q h33_ (la_toss__37 h373_) (la_toss__37 h373_)), ?_⟩
        refine ⟨(sm_VO_eq h34_ (la_toss__37 h373_) (la_toss__37 h373_)), ?_⟩
        refine ⟨(sm_FW_q h35_ (la_toss__37 h373_)), ?_⟩
        refine ⟨h55_, ?_⟩
        refine ⟨(la_toss__37 h373_), ?_⟩
        exact (sm_SK_0 (la_toss__39 h373_))
      refine ⟨(la_toss__40 h7_ h9_ h52_ h57_ h370_), ?_⟩
      refine ⟨h53_, ?_⟩
      intro h374_
      exact h52_
    intro h375_
    have h376_ := (h54_ (la_toss__41 h375_))
    refine ⟨(la_toss__42 h25_ h53_ h375_), ?_⟩
    intro h377_
    refine ⟨?_, ?_⟩
    · skip
      intro h378_
      intro h379_
      obtain ⟨⟨h380_, ⟨h381_, ⟨h382_, ⟨h383_, h384_⟩⟩⟩⟩, ⟨h385_, ⟨h386_, ⟨h387_, ⟨h388_, ⟨h389_, h390_⟩⟩⟩⟩⟩⟩ := (h379_ h376_)
      refine ⟨?_, ?_⟩
      · skip
        intro h391_
        intro h392_
        have h393_ := (h392_ h378_)
        have h394_ := (h393_ h385_)
        obtain ⟨⟨h395_, ⟨h396_, h397_⟩⟩, h398_⟩ := (h387_ h394_)
        intro h399_
        have h400_ := (h399_ h13_)
        have h401_ := (h400_ h386_)
        have h402_ := (h401_ h394_)
        have h403_ := (h402_ h395_)
        obtain ⟨⟨h404_, ⟨h405_, ⟨h406_, ⟨h407_, ⟨h408_, h409_⟩⟩⟩⟩⟩, ⟨⟨h410_, ⟨h411_, ⟨h412_, h413_⟩⟩⟩, ⟨⟨h414_, ⟨h415_, ⟨h416_, ⟨h417_, ⟨h418_, h419_⟩⟩⟩⟩⟩, ⟨h420_, ⟨h421_, ⟨h422_, h423_⟩⟩⟩⟩⟩⟩ := (h403_ h396_)
        intro x48
        intro h424_
        refine ⟨(la_toss__45 h25_ h53_ h375_ h424_), ?_⟩
        intro h425_
        refine ⟨?_, ?_⟩
        · skip
          have e426_ : S 60 x48 = S 60 (g3 1092 0 - 1) := congrArg ((S 60)) (la_toss__15 h424_)
          exact (la_toss__46 (la_toss__43 (la_toss__44 h385_ h404_ h406_) h378_) h425_ e426_)
        intro v55
        intro h427_
        have e428_ : (if x48 = x48 then S 60 x48 - 1 else S 60 x48 : Int) = S 60 x48 - 1 := if_pos la_toss__11
        intro h429_
        intro x57
        intro h430_
        refine ⟨?_, ?_⟩
        · skip
          refine ⟨?_, ?_⟩
          · skip
            have e431_ : S 60 x48 = S 60 (g3 1092 0 - 1) := congrArg ((S 60)) (la_toss__15 h424_)
            exact (la_toss__47 (la_toss__43 h52_ h391_) (la_toss__43 (la_toss__44 h385_ h404_ h406_) h378_) h424_ h427_ e428_ h430_ e431_)
          have e432_ : S 60 x48 = S 60 (g3 1092 0 - 1) := congrArg ((S 60)) (la_toss__15 h424_)
          exact (la_toss__48 h25_ h53_ h385_ h405_ h406_ h424_ h427_ e428_ h430_ e432_)
        intro h433_
        refine ⟨?_, ?_⟩
        · skip
          refine ⟨(la_toss__41 h375_), ?_⟩
          refine ⟨(la_toss__49 h25_ h53_), ?_⟩
          refine ⟨?_, ?_⟩
          · skip
            have e434_ : (if g3 1092 0 - 1 = x48 then S 62 x57 else S 58 (g3 1092 0 - 1) : Int) = S 62 x57 := if_pos h424_
            have e435_ : S 60 x48 = S 60 (g3 1092 0 - 1) := congrArg ((S 60)) (la_toss__15 h424_)
            have e436_ : S 62 x57 = S 62 (40 * (g3 1092 0 - 1) + S 1100024 (S 1100023 (S 57 (g3 1092 0 - 1)))) := congrArg ((S 62)) (la_toss__50 h385_ h406_ h424_ h427_ e428_ h430_ e435_)
            exact (la_toss__51 h411_ h412_ e434_ e436_)
          refine ⟨?_, ?_⟩
          · skip
            have e437_ : (if g3 1092 0 - 1 = x48 then S 62 x57 else S 58 (g3 1092 0 - 1) : Int) = S 62 x57 := if_pos h424_
            have e438_ : S 60 x48 = S 60 (g3 1092 0 - 1) := congrArg ((S 60)) (la_toss__15 h424_)
            have e439_ : S 62 x57 = S 62 (40 * (g3 1092 0 - 1) + S 1100024 (S 1100023 (S 57 (g3 1092 0 - 1)))) := congrArg ((S 62)) (la_toss__50 h385_ h406_ h424_ h427_ e428_ h430_ e438_)
            exact (la_toss__52 h411_ h413_ e437_ e439_)
          have e440_ : (if g3 1092 0 - 1 = x48 then S 62 x57 else S 58 (g3 1092 0 - 1) : Int) = S 62 x57 := if_pos h424_
          have e441_ : S 60 x48 = S 60 (g3 1092 0 - 1) := congrArg ((S 60)) (la_toss__15 h424_)
          have e442_ : S 62 x57 = S 62 (40 * (g3 1092 0 - 1) + S 1100024 (S 1100023 (S 57 (g3 1092 0 - 1)))) := congrArg ((S 62)) (la_toss__50 h385_ h406_ h424_ h427_ e428_ h430_ e441_)
          exact (la_toss__53 h411_ h413_ e440_ e442_)
        intro g64
        rintro ⟨h443_, ⟨h444_, ⟨h445_, ⟨h446_, ⟨h447_, h448_⟩⟩⟩⟩⟩
        have e449_ : (if g3 1092 0 - 1 = x48 then S 62 x57 else S 58 (g3 1092 0 - 1) : Int) = S 62 x57 := if_pos h424_
        intro h450_
        refine ⟨?_, ?_⟩
        · skip
          intro h451_
          have h452_ := (h446_ (g3 1092 0 - 1))
          have h453_ := (h446_ (S 1092 0 - 1))
          have h454_ := (h447_ (400 * (g3 1092 0 - 1) + (if g3 1092 0 - 1 = x48 then S 62 x57 else S 58 (g3 1092 0 - 1))))
          have h455_ := (h448_ (400 * (g3 1092 0 - 1) + (if g3 1092 0 - 1 = x48 then S 62 x57 else S 58 (g3 1092 0 - 1))))
          have e456_ : S 60 x48 = S 60 (g3 1092 0 - 1) := congrArg ((S 60)) (la_toss__15 h424_)
          have e457_ : S 61 x57 = S 61 (40 * (g3 1092 0 - 1) + S 1100024 (S 1100023 (S 57 (g3 1092 0 - 1)))) := congrArg ((S 61)) (la_toss__50 h385_ h406_ h424_ h427_ e428_ h430_ e456_)
          have e458_ : S 62 x57 = S 62 (40 * (g3 1092 0 - 1) + S 1100024 (S 1100023 (S 57 (g3 1092 0 - 1)))) := congrArg ((S 62)) (la_toss__50 h385_ h406_ h424_ h427_ e428_ h430_ e456_)
          exact ((la_toss__10 h7_ (la_toss__5 (la_toss__17 h9_) h451_))).elim
        refine ⟨?_, ?_⟩
        · skip
          intro h459_
          intro h460_
          refine ⟨h460_, ?_⟩
          refine ⟨(la_toss__41 h375_), ?_⟩
          refine ⟨(la_toss__49 h25_ h53_), ?_⟩
          refine ⟨?_, ?_⟩
          · skip
            have h461_ := (h446_ (g3 1092 0 - 1))
            have h462_ := (h446_ (S 1092 0 - 1))
            have h463_ := (h447_ (400 * (g3 1092 0 - 1) + (if g3 1092 0 - 1 = x48 then S 62 x57 else S 58 (g3 1092 0 - 1))))
            have h464_ := (h448_ (400 * (g3 1092 0 - 1) + (if g3 1092 0 - 1 = x48 then S 62 x57 else S 58 (g3 1092 0 - 1))))
            have e465_ : (if g3 1092 0 - 1 = x48 then S 61 x57 else S 57 (g3 1092 0 - 1) : Int) = S 61 x57 := if_pos h424_
            have e466_ : S 60 x48 = S 60 (g3 1092 0 - 1) := congrArg ((S 60)) (la_toss__15 h424_)
            have e467_ : S 61 x57 = S 61 (40 * (g3 1092 0 - 1) + S 1100024 (S 1100023 (S 57 (g3 1092 0 - 1)))) := congrArg ((S 61)) (la_toss__50 h385_ h406_ h424_ h427_ e428_ h430_ e466_)
            have e468_ : S 62 x57 = S 62 (40 * (g3 1092 0 - 1) + S 1100024 (S 1100023 (S 57 (g3 1092 0 - 1)))) := congrArg ((S 62)) (la_toss__50 h385_ h406_ h424_ h427_ e428_ h430_ e466_)
            exact (la_toss__51 h410_ h414_ e465_ e467_)
          refine ⟨?_, ?_⟩
          · skip
            have h469_ := (h446_ (g3 1092 0 - 1))
            have h470_ := (h446_ (S 1092 0 - 1))
            have h471_ := (h447_ (400 * (g3 1092 0 - 1) + (if g3 1092 0 - 1 = x48 then S 62 x57 else S 58 (g3 1092 0 - 1))))
            have h472_ := (h448_ (400 * (g3 1092 0 - 1) + (if g3 1092 0 - 1 = x48 then S 62 x57 else S 58 (g3 1092 0 - 1))))
            have e473_ : (if g3 1092 0 - 1 = x48 then S 61 x57 else S 57 (g3 1092 0 - 1) : Int) = S 61 x57 := if_pos h424_
            have e474_ : S 60 x48 = S 60 (g3 1092 0 - 1) := congrArg ((S 60)) (la_toss__15 h424_)
            have e475_ : S 61 x57 = S 61 (40 * (g3 1092 0 - 1) + S 1100024 (S 1100023 (S 57 (g3 1092 0 - 1)))) := congrArg ((S 61)) (la_toss__50 h385_ h406_ h424_ h427_ e428_ h430_ e474_)
            have e476_ : S 62 x57 = S 62 (40 * (g3 1092 0 - 1) + S 1100024 (S 1100023 (S 57 (g3 1092 0 - 1)))) := congrArg ((S 62)) (la_toss__50 h385_ h406_ h424_ h427_ e428_ h430_ e474_)
            exact (la_toss__54 h410_ h415_ e473_ e475_)
          refine ⟨?_, ?_⟩
          · skip
            have h477_ := (h446_ (g3 1092 0 - 1))
            have h478_ := (h446_ (S 1092 0 - 1))
            have h479_ := (h447_ (400 * (g3 1092 0 - 1) + (if g3 1092 0 - 1 = x48 then S 62 x57 else S 58 (g3 1092 0 - 1))))
            have h480_ := (h448_ (400 * (g3 1092 0 - 1) + (if g3 1092 0 - 1 = x48 then S 62 x57 else S 58 (g3 1092 0 - 1))))
            have e481_ : (if g3 1092 0 - 1 = x48 then S 61 x57 else S 57 (g3 1092 0 - 1) : Int) = S 61 x57 := if_pos h424_
            have e482_ : S 60 x48 = S 60 (g3 1092 0 - 1) := congrArg ((S 60)) (la_toss__15 h424_)
            have e483_ : S 61 x57 = S 61 (40 * (g3 1092 0 - 1) + S 1100024 (S 1100023 (S 57 (g3 1092 0 - 1)))) := congrArg ((S 61)) (la_toss__50 h385_ h406_ h424_ h427_ e428_ h430_ e482_)
            have e484_ : S 62 x57 = S 62 (40 * (g3 1092 0 - 1) + S 1100024 (S 1100023 (S 57 (g3 1092 0 - 1)))) := congrArg ((S 62)) (la_toss__50 h385_ h406_ h424_ h427_ e428_ h430_ e482_)
            have e485_ : S 29 (if g3 1092 0 - 1 = x48 then S 61 x57 else S 57 (g3 1092 0 - 1)) = S 29 (S 27 (S 1100023 (S 57 (g3 1092 0 - 1)))) := congrArg ((S 29)) (la_toss__55 h410_ e481_ e483_)
            exact (la_toss__56 h397_ h416_ e485_)
          refine ⟨h380_, ?_⟩
          refine ⟨h381_, ?_⟩
          refine ⟨?_, ?_⟩
          · skip
            have h486_ := (h446_ (g3 1092 0 - 1))
            have h487_ := (h446_ (S 1092 0 - 1))
            have h488_ := (h447_ (400 * (g3 1092 0 - 1) + (if g3 1092 0 - 1 = x48 then S 62 x57 else S 58 (g3 1092 0 - 1))))
            have h489_ := (h448_ (400 * (g3 1092 0 - 1) + (if g3 1092 0 - 1 = x48 then S 62 x57 else S 58 (g3 1092 0 - 1))))
            have e490_ : (if g3 1092 0 - 1 = x48 then S 60 x48 - 1 else S 60 (g3 1092 0 - 1) : Int) = S 60 x48 - 1 := if_pos h424_
            have e491_ : (if g3 1092 0 - 1 = x48 then S 61 x57 else S 57 (g3 1092 0 - 1) : Int) = S 61 x57 := if_pos h424_
            have e492_ : S 60 x48 = S 60 (g3 1092 0 - 1) := congrArg ((S 60)) (la_toss__15 h424_)
            have e493_ : S 61 x57 = S 61 (40 * (g3 1092 0 - 1) + S 1100024 (S 1100023 (S 57 (g3 1092 0 - 1)))) := congrArg ((S 61)) (la_toss__50 h385_ h406_ h424_ h427_ e428_ h430_ e492_)
            have e494_ : S 62 x57 = S 62 (40 * (g3 1092 0 - 1) + S 1100024 (S 1100023 (S 57 (g3 1092 0 - 1)))) := congrArg ((S 62)) (la_toss__50 h385_ h406_ h424_ h427_ e428_ h430_ e492_)
            have e495_ : S 1100023 (if g3 1092 0 - 1 = x48 then S 61 x57 else S 57 (g3 1092 0 - 1)) = S 1100023 (S 27 (S 1100023 (S 57 (g3 1092 0 - 1)))) := congrArg ((S 1100023)) (la_toss__55 h410_ e491_ e493_)
            have e496_ : sm_dp (S 1100024) (S 1100023 (if g3 1092 0 - 1 = x48 then S 61 x57 else S 57 (g3 1092 0 - 1))) = sm_dp (S 1100024) (S 1100023 (S 1100023 (S 57 (g3 1092 0 - 1)))) := congrArg ((sm_dp (S 1100024))) (la_toss__57 h418_ e495_)
            exact (la_toss__58 h385_ h406_ h407_ e490_ e492_ e496_)
          refine ⟨?_, ?_⟩
          · skip
            have h497_ := (h446_ (g3 1092 0 - 1))
            have h498_ := (h446_ (S 1092 0 - 1))
            have h499_ := (h447_ (400 * (g3 1092 0 - 1) + (if g3 1092 0 - 1 = x48 then S 62 x57 else S 58 (g3 1092 0 - 1))))
            have h500_ := (h448_ (400 * (g3 1092 0 - 1) + (if g3 1092 0 - 1 = x48 then S 62 x57 else S 58 (g3 1092 0 - 1))))
            have e501_ : (if g3 1092 0 - 1 = x48 then S 61 x57 else S 57 (g3 1092 0 - 1) : Int) = S 61 x57 := if_pos h424_
            have e502_ : S 60 x48 = S 60 (g3 1092 0 - 1) := congrArg ((S 60)) (la_toss__15 h424_)
            have e503_ : S 61 x57 = S 61 (40 * (g3 1092 0 - 1) + S 1100024 (S 1100023 (S 57 (g3 1092 0 - 1)))) := congrArg ((S 61)) (la_toss__50 h385_ h406_ h424_ h427_ e428_ h430_ e502_)
            have e504_ : S 62 x57 = S 62 (40 * (g3 1092 0 - 1) + S 1100024 (S 1100023 (S 57 (g3 1092 0 - 1)))) := congrArg ((S 62)) (la_toss__50 h385_ h406_ h424_ h427_ e428_ h430_ e502_)
            have e505_ : S 1100023 (if g3 1092 0 - 1 = x48 then S 61 x57 else S 57 (g3 1092 0 - 1)) = S 1100023 (S 27 (S 1100023 (S 57 (g3 1092 0 - 1)))) := congrArg ((S 1100023)) (la_toss__55 h410_ e501_ e503_)
            exact (sm_TC_t h420_ (la_toss__59 h418_ e505_))
          refine ⟨h388_, ?_⟩
          refine ⟨h389_, ?_⟩
          refine ⟨h390_, ?_⟩
          refine ⟨?_, ?_⟩
          · skip
            have h506_ := (h446_ (g3 1092 0 - 1))
            have h507_ := (h446_ (S 1092 0 - 1))
            have h508_ := (h447_ (400 * (g3 1092 0 - 1) + (if g3 1092 0 - 1 = x48 then S 62 x57 else S 58 (g3 1092 0 - 1))))
            have h509_ := (h448_ (400 * (g3 1092 0 - 1) + (if g3 1092 0 - 1 = x48 then S 62 x57 else S 58 (g3 1092 0 - 1))))
            have e510_ : S 60 x48 = S 60 (g3 1092 0 - 1) := congrArg ((S 60)) (la_toss__15 h424_)
            have e511_ : S 61 x57 = S 61 (40 * (g3 1092 0 - 1) + S 1100024 (S 1100023 (S 57 (g3 1092 0 - 1)))) := congrArg ((S 61)) (la_toss__50 h385_ h406_ h424_ h427_ e428_ h430_ e510_)
            have e512_ : S 62 x57 = S 62 (40 * (g3 1092 0 - 1) + S 1100024 (S 1100023 (S 57 (g3 1092 0 - 1)))) := congrArg ((S 62)) (la_toss__50 h385_ h406_ h424_ h427_ e428_ h430_ e510_)
            exact (sm_FL_F h55_ sm_F1_rf sm_F1_rf sm_F1_rf sm_F1_rf (sm_F1_up sm_F1_rf (la_toss__60 h424_)) (sm_F1_tr (sm_F1_up sm_F1_rf (la_toss__60 h424_)) (sm_F1_ne h446_ (Int.le_refl _)) (Int.le_refl _)) sm_F1_rf (sm_F1_up sm_F1_rf (la_toss__60 h424_)) sm_F1_rf sm_F1_rf (sm_F1_le (sm_F1_ne h447_ (Int.le_refl _)) (la_toss__62 h411_ h412_ e449_ e512_)) (sm_F1_le (sm_F1_ne h448_ (Int.le_refl _)) (la_toss__62 h411_ h412_ e449_ e512_)) (Int.le_refl _) (Int.le_refl _) sm_F1_rf sm_F1_rf (sm_FL_dp h55_ h13_))
          refine ⟨?_, ?_⟩
          · skip
            have h513_ := (h446_ (g3 1092 0 - 1))
            have h514_ := (h446_ (S 1092 0 - 1))
            have h515_ := (h447_ (400 * (g3 1092 0 - 1) + (if g3 1092 0 - 1 = x48 then S 62 x57 else S 58 (g3 1092 0 - 1))))
            have h516_ := (h448_ (400 * (g3 1092 0 - 1) + (if g3 1092 0 - 1 = x48 then S 62 x57 else S 58 (g3 1092 0 - 1))))
            have e517_ : (if g3 1092 0 - 1 = x48 then S 61 x57 else S 57 (g3 1092 0 - 1) : Int) = S 61 x57 := if_pos h424_
            have e518_ : S 60 x48 = S 60 (g3 1092 0 - 1) := congrArg ((S 60)) (la_toss__15 h424_)
            have e519_ : S 61 x57 = S 61 (40 * (g3 1092 0 - 1) + S 1100024 (S 1100023 (S 57 (g3 1092 0 - 1)))) := congrArg ((S 61)) (la_toss__50 h385_ h406_ h424_ h427_ e428_ h430_ e518_)
            have e520_ : S 62 x57 = S 62 (40 * (g3 1092 0 - 1) + S 1100024 (S 1100023 (S 57 (g3 1092 0 - 1)))) := congrArg ((S 62)) (la_toss__50 h385_ h406_ h424_ h427_ e428_ h430_ e518_)
            have e521_ : S 1100007 (if g3 1092 0 - 1 = x48 then S 61 x57 else S 57 (g3 1092 0 - 1)) = S 1100007 (S 27 (S 1100023 (S 57 (g3 1092 0 - 1)))) := congrArg ((S 1100007)) (la_toss__55 h410_ e517_ e519_)
            exact (la_toss__63 h411_ h417_ h443_ e449_ e520_ e521_)
          have h522_ := (h446_ (g3 1092 0 - 1))
          have h523_ := (h446_ (S 1092 0 - 1))
          have h524_ := (h447_ (400 * (g3 1092 0 - 1) + (if g3 1092 0 - 1 = x48 then S 62 x57 else S 58 (g3 1092 0 - 1))))
          have h525_ := (h448_ (400 * (g3 1092 0 - 1) + (if g3 1092 0 - 1 = x48 then S 62 x57 else S 58 (g3 1092 0 - 1))))
          have e526_ : (if g3 1092 0 - 1 = x48 then S 61 x57 else S 57 (g3 1092 0 - 1) : Int) = S 61 x57 := if_pos h424_
          have e527_ : S 60 x48 = S 60 (g3 1092 0 - 1) := congrArg ((S 60)) (la_toss__15 h424_)
          have e528_ : S 61 x57 = S 61 (40 * (g3 1092 0 - 1) + S 1100024 (S 1100023 (S 57 (g3 1092 0 - 1)))) := congrArg ((S 61)) (la_toss__50 h385_ h406_ h424_ h427_ e428_ h430_ e527_)
          have e529_ : S 62 x57 = S 62 (40 * (g3 1092 0 - 1) + S 1100024 (S 1100023 (S 57 (g3 1092 0 - 1)))) := congrArg ((S 62)) (la_toss__50 h385_ h406_ h424_ h427_ e428_ h430_ e527_)
          have e530_ : S 1100025 (if g3 1092 0 - 1 = x48 then S 61 x57 else S 57 (g3 1092 0 - 1)) = S 1100025 (S 27 (S 1100023 (S 57 (g3 1092 0 - 1)))) := congrArg ((S 1100025)) (la_toss__55 h410_ e526_ e528_)
          exact (sm_SK_q (sm_SK_q (sm_SK_push (sm_SK_F h398_ (sm_F1_le (sm_F1_ne h447_ (Int.le_refl _)) (la_toss__64 h411_ e449_ e529_)) (sm_F1_le (sm_F1_ne h448_ (Int.le_refl _)) (la_toss__64 h411_ e449_ e529_)) (Int.le_refl _) (Int.le_refl _)) h14_ (la_toss__67 h395_ h422_) h423_ rfl (sm_VO_eq h39_ ((congrArg (g64 63) (la_toss__66 h411_ e449_ e529_)).trans h444_) ((congrArg (g64 64) (la_toss__66 h411_ e449_ e529_)).trans h445_)) rfl) rfl (la_toss__65 h411_ h443_ e449_ e529_) rfl) (la_toss__57 h419_ e530_) rfl rfl)
        refine ⟨la_toss__31, ?_⟩
        refine ⟨h53_, ?_⟩
        intro h531_
        exact h52_
      intro h532_
      refine ⟨?_, ?_⟩
      · skip
        intro h533_
        exact (sm_LX_0 (la_toss__68 h375_ h532_))
      refine ⟨?_, ?_⟩
      · skip
        intro h534_
        intro h535_
        refine ⟨(la_toss__32 h535_), ?_⟩
        refine ⟨(la_toss__33 h535_), ?_⟩
        refine ⟨(la_toss__34 h535_), ?_⟩
        refine ⟨h382_, ?_⟩
        refine ⟨h383_, ?_⟩
        refine ⟨h384_, ?_⟩
        refine ⟨h380_, ?_⟩
        refine ⟨h381_, ?_⟩
        refine ⟨h385_, ?_⟩
        refine ⟨h386_, ?_⟩
        refine ⟨h388_, ?_⟩
        refine ⟨h389_, ?_⟩
        refine ⟨h390_, ?_⟩
        refine ⟨h55_, ?_⟩
        refine ⟨(la_toss__37 h535_), ?_⟩
        exact (sm_SK_0 (la_toss__39 h535_))
      refine ⟨(la_toss__69 h7_ h9_ h375_ h532_), ?_⟩
      refine ⟨h53_, ?_⟩
      intro h536_
      exact h52_
    intro h537_
    refine ⟨(la_toss__70 h25_ h53_ h375_), ?_⟩
    intro h538_
    have h539_ := (h538_ h36_)
    have h540_ := (h539_ h13_)
    have h541_ := (h540_ h15_)
    refine ⟨?_, ?_⟩
    · skip
      refine ⟨(la_toss__71 h375_), ?_⟩
      refine ⟨(la_toss__72 h53_), ?_⟩
      refine ⟨?_, ?_⟩
      · skip
        intro h542_
        have h543_ := (h541_ (la_toss__73 h542_))
        have h544_ := (h543_ (la_toss__74 h53_))
        exact h544_
      exact (sm_FL_w h55_ la_toss__75)
    exact la_toss__76
  intro h545_
  have h546_ := (h4_ h545_)
  refine ⟨h4_, ?_⟩
  refine ⟨?_, ?_⟩
  · skip
    intro h547_
    intro h548_
    refine ⟨h548_, ?_⟩
    refine ⟨?_, ?_⟩
    · skip
      exact ((la_toss__77 (la_toss__43 h7_ h545_) h547_)).elim
    refine ⟨?_, ?_⟩
    · skip
      exact ((la_toss__77 (la_toss__43 h7_ h545_) h547_)).elim
    refine ⟨?_, ?_⟩
    · skip
      exact ((la_toss__77 (la_toss__43 h7_ h545_) h547_)).elim
    refine ⟨?_, ?_⟩
    · skip
      exact ((la_toss__77 (la_toss__43 h7_ h545_) h547_)).elim
    refine ⟨?_, ?_⟩
    · skip
      exact ((la_toss__77 (la_toss__43 h7_ h545_) h547_)).elim
    refine ⟨?_, ?_⟩
    · skip
      exact ((la_toss__77 (la_toss__43 h7_ h545_) h547_)).elim
    refine ⟨?_, ?_⟩
    · skip
      exact ((la_toss__77 (la_toss__43 h7_ h545_) h547_)).elim
    refine ⟨?_, ?_⟩
    · skip
      exact ((la_toss__77 (la_toss__43 h7_ h545_) h547_)).elim
    refine ⟨?_, ?_⟩
    · skip
      exact ((la_toss__77 (la_toss__43 h7_ h545_) h547_)).elim
    refine ⟨?_, ?_⟩
    · skip
      exact ((la_toss__77 (la_toss__43 h7_ h545_) h547_)).elim
    refine ⟨?_, ?_⟩
    · skip
      exact ((la_toss__77 (la_toss__43 h7_ h545_) h547_)).elim
    refine ⟨?_, ?_⟩
    · skip
      exact ((la_toss__77 (la_toss__43 h7_ h545_) h547_)).elim
    refine ⟨?_, ?_⟩
    · skip
      exact ((la_toss__77 (la_toss__43 h7_ h545_) h547_)).elim
    refine ⟨?_, ?_⟩
    · skip
      exact ((la_toss__77 (la_toss__43 h7_ h545_) h547_)).elim
    exact ((la_toss__77 (la_toss__43 h7_ h545_) h547_)).elim
  refine ⟨la_toss__31, ?_⟩
  refine ⟨la_toss__3, ?_⟩
  intro h549_
  exact h549_
set_option maxRecDepth 8000 in
set_option maxHeartbeats 2000000 in
theorem t_toss_ : ∀ (p1 : Int) (p2 : Int) (S : sv_S), sm_ok S → sv_R p1 → sv_R p2 → ((¬ (S 1075 0) = 0 → sm_LX (S 58) (S 63) (S 64) (S 1092 0) (S 1076 0)) ∧ ((S 1075 0) = 0 → 31 ≤ (S 1007 0) ∧ (S 1007 0) ≤ 400 ∧ sm_LN (S 4) 400 (S 1007 0) ∧ sm_CT (S 26) (S 27) (S 28) (S 29) (S 1100007) (S 1100023) (S 1100024) (S 1100025) (S 21) (S 1046 0) (S 1032 0) (S 1008 0) (S 1055 0) ∧ sm_LS (S 26) (S 1100007) (S 1100025) (S 1046 0) ∧ sm_CL (S 1100007) (S 1100023) (S 1100025) (S 1046 0) ∧ 1 ≤ (S 1032 0) ∧ (S 1032 0) ≤ 11 ∧ 0 ≤ (S 1046 0) ∧ (S 1046 0) ≤ 600 ∧ 31 ≤ (S 1008 0) ∧ (S 1008 0) ≤ (S 1007 0) ∧ 0 ≤ (S 1055 0) ∧ (S 1055 0) ≤ 19 ∧ 1 ≤ (S 1092 0) ∧ (S 1092 0) ≤ 24 ∧ 0 ≤ (S 57 ((S 1092 0) - 1)) ∧ (S 57 ((S 1092 0) - 1)) < (S 1046 0) ∧ (S 29 (S 57 ((S 1092 0) - 1))) = (S 53 ((S 1092 0) - 1)) ∧ 0 ≤ (S 53 ((S 1092 0) - 1)) ∧ (S 53 ((S 1092 0) - 1)) < (S 1032 0) ∧ (S 60 ((S 1092 0) - 1)) = sm_dp (S 1100024) (S 1100023 (S 57 ((S 1092 0) - 1))) ∧ sm_TC (S 61) (S 62) (S 27) (S 1100007) (S 1100023) (S 1100024) (40 * ((S 1092 0) - 1)) (S 1100023 (S 57 ((S 1092 0) - 1))) ∧ sm_LK (S 1100029) (S 1076 0) (S 54 ((S 1092 0) - 1)) (S 53 ((S 1092 0) - 1)) ∧ sm_VO (S 44) (S 1076 0) (S 1007 0) ((S 55 ((S 1092 0) - 1))) ((S 56 ((S 1092 0) - 1))) ∧ sm_FW (S 44) (S 1076 0) (S 59 ((S 1092 0) - 1)) ∧ sm_FL (S 53) (S 54) (S 55) (S 56) (S 57) (S 58) (S 59) (S 60) (S 61) (S 62) (S 63) (S 64) (S 27) (S 29) (S 1100007) (S 1100023) (S 1100024) (S 1100025) (S 26) (S 1100029) (S 44) (S 1046 0) (S 1032 0) (S 1076 0) (S 1007 0) (((S 1092 0) - 1)) ∧ (S 58 ((S 1092 0) - 1)) = (S 1100007 (S 57 ((S 1092 0) - 1))) ∧ sm_SK (S 63) (S 64) (S 44) (S 1100007) (S 1100025) (S 1076 0) (S 1007 0) (400 * ((S 1092 0) - 1)) ((S 58 ((S 1092 0) - 1))) ((S 1100025 (S 57 ((S 1092 0) - 1)))) ∧ sm_VO (S 44) (S 1076 0) (S 1007 0) (p1) (p2) ∧ (0 ≤ (S 1100023 (S 57 ((S 1092 0) - 1))) → (S 1100007 (S 1100023 (S 57 ((S 1092 0) - 1)))) ≤ (S 58 ((S 1092 0) - 1))))) → sv_T sm_XS sm_cs sm_L sm_sh 2 (q_toss_ p1 p2 S) 156 0 (lv_args 0 [.ref 0, sv_I p1, sv_I p2]) [] S := by
  intro p1 p2 S hok hp1 hp2 hpre
  have h := f_toss_ p1 p2 S hok hp1 hp2 hpre
  have hM := sm_h156
  show sv_T sm_XS sm_cs sm_L sm_sh 2 (q_toss_ p1 p2 S) 156 0 [(0, .ref 0), (1, sv_I p1), (2, sv_I p2)] [] S
  refine sv_aload_n hM dX12_toss__0 rfl rfl ?_
  have k1 : (sm_CT (S 26) (S 27) (S 28) (S 29) (S 1100007) (S 1100023) (S 1100024) (S 1100025) (S 21) (S 1046 0) (S 1032 0) (S 1008 0) (S 1055 0) → sm_CL (S 1100007) (S 1100023) (S 1100025) (S 1046 0) → 0 ≤ (S 53 ((S 1092 0) - 1)) ∧ (S 53 ((S 1092 0) - 1)) < (S 1032 0) ∧ 0 ≤ (S 57 ((S 1092 0) - 1)) ∧ (S 57 ((S 1092 0) - 1)) < (S 1046 0) ∧ (S 29 (S 57 ((S 1092 0) - 1))) = (S 53 ((S 1092 0) - 1)) → (S 60 ((S 1092 0) - 1)) = sm_dp (S 1100024) (S 1100023 (S 57 ((S 1092 0) - 1))) → sm_TC (S 61) (S 62) (S 27) (S 1100007) (S 1100023) (S 1100024) (40 * ((S 1092 0) - 1)) (S 1100023 (S 57 ((S 1092 0) - 1))) → sm_SK (S 63) (S 64) (S 44) (S 1100007) (S 1100025) (S 1076 0) (S 1007 0) (400 * ((S 1092 0) - 1)) ((S 58 ((S 1092 0) - 1))) ((S 1100025 (S 57 ((S 1092 0) - 1)))) → (0 ≤ (S 1100023 (S 57 ((S 1092 0) - 1))) → (S 1100007 (S 1100023 (S 57 ((S 1092 0) - 1)))) ≤ (S 58 ((S 1092 0) - 1))) → sm_LK (S 1100029) (S 1076 0) (S 54 ((S 1092 0) - 1)) (S 53 ((S 1092 0) - 1)) → sm_VO (S 44) (S 1076 0) (S 1007 0) ((S 55 ((S 1092 0) - 1))) ((S 56 ((S 1092 0) - 1))) → sm_FW (S 44) (S 1076 0) (S 59 ((S 1092 0) - 1)) → sm_FG (S 53) (S 54) (S 55) (S 56) (S 57) (S 58) (S 59) (S 60) (S 61) (S 62) (S 63) (S 64) (S 27) (S 29) (S 1100007) (S 1100023) (S 1100024) (S 1100025) (S 26) (S 1100029) (S 44) (S 1046 0) (S 1032 0) (S 1076 0) (S 1007 0) ((S 1092 0) - 1)) := fun c l a b d e g i j k => sm_FG_t c l a b d rfl e rfl g i j k
  have h := h k1
  have k2 : (0 ≤ (S 1075 0) ∧ (S 1075 0) ≤ 1) := sm_okZ hok sm_r1075 0
  have h := h k2
  refine sv_getI hM dX12_toss__1 sm_fl_794 (sm_a0 _) sm_k75 rfl (x := (S 1075 0)) rfl ?_
  refine sv_cond_eq hM dX12_toss__4 (sv_R01 k2) (t := 8) rfl rfl (fun hc => ?_) (fun hc => ?_)
  · have h := h.1 (hc)
    obtain ⟨hin5, h⟩ := h
    have hJ : ∀ a : sv_S, (sm_ok (sv_sts S [1092] a) ∧ (0 ≤ (a 1092 0) ∧ (a 1092 0) ≤ (S 1092 0) ∧ (1 ≤ (a 1092 0) → sm_FG (S 53) (S 54) (S 55) (S 56) (S 57) (S 58) (S 59) (S 60) (S 61) (S 62) (S 63) (S 64) (S 27) (S 29) (S 1100007) (S 1100023) (S 1100024) (S 1100025) (S 26) (S 1100029) (S 44) (S 1046 0) (S 1032 0) (S 1076 0) (S 1007 0) ((a 1092 0) - 1)) ∧ sm_FL (S 53) (S 54) (S 55) (S 56) (S 57) (S 58) (S 59) (S 60) (S 61) (S 62) (S 63) (S 64) (S 27) (S 29) (S 1100007) (S 1100023) (S 1100024) (S 1100025) (S 26) (S 1100029) (S 44) (S 1046 0) (S 1032 0) (S 1076 0) (S 1007 0) (((a 1092 0) - 1)))) → sv_T sm_XS sm_cs sm_L sm_sh 2 (q_toss_ p1 p2 S) 156 8 [(0, .ref 0), (1, sv_I p1), (2, sv_I p2)] [] (sv_sts S [1092] a) := by
      refine sv_loop (α := sv_S) (fun a => sm_ok (sv_sts S [1092] a) ∧ (0 ≤ (a 1092 0) ∧ (a 1092 0) ≤ (S 1092 0) ∧ (1 ≤ (a 1092 0) → sm_FG (S 53) (S 54) (S 55) (S 56) (S 57) (S 58) (S 59) (S 60) (S 61) (S 62) (S 63) (S 64) (S 27) (S 29) (S 1100007) (S 1100023) (S 1100024) (S 1100025) (S 26) (S 1100029) (S 44) (S 1046 0) (S 1032 0) (S 1076 0) (S 1007 0) ((a 1092 0) - 1)) ∧ sm_FL (S 53) (S 54) (S 55) (S 56) (S 57) (S 58) (S 59) (S 60) (S 61) (S 62) (S 63) (S 64) (S 27) (S 29) (S 1100007) (S 1100023) (S 1100024) (S 1100025) (S 26) (S 1100029) (S 44) (S 1046 0) (S 1032 0) (S 1076 0) (S 1007 0) (((a 1092 0) - 1)))) (fun a => (a 1092 0)) (fun a => sv_T sm_XS sm_cs sm_L sm_sh 2 (q_toss_ p1 p2 S) 156 8 [(0, .ref 0), (1, sv_I p1), (2, sv_I p2)] [] (sv_sts S [1092] a)) (fun a q => (h a q.2).1) (fun g3 q ih4 => ?_)
      obtain ⟨ok6, hin5i⟩ := q
      have h := (h g3 hin5i).2
      show sv_T sm_XS sm_cs sm_L sm_sh 2 (q_toss_ p1 p2 S) 156 8 [(0, .ref 0), (1, sv_I p1), (2, sv_I p2)] [] (sv_sts S [1092] g3)
      have md7 : sv_mod [1092, 60, 58, 57, 63, 64, 1073, 1109, 1110] S (sv_sts S [1092] g3) := sv_mod.sts sv_mod.rf (by decide)
      have md8 : sv_mod [1092] S (sv_sts S [1092] g3) := sv_mod.sts sv_mod.rf (by decide)
      refine sv_aload_n hM dX12_toss__8 rfl rfl ?_
      have k9 : sv_R (g3 1092 0) := sm_okI ok6 sm_r1092 0
      have h := h k9
      refine sv_getI hM dX12_toss__9 sm_fl_872 (sm_a0 _) sm_k92 rfl (x := (g3 1092 0)) rfl ?_
      refine sv_cond_le hM dX12_toss__12 k9 (t := 42) rfl rfl (fun hc => ?_) (fun hc => ?_)
      · have h := h.1 (hc)
        refine sv_aload_n hM dX12_toss__42 rfl rfl ?_
        refine sv_getI hM dX12_toss__43 sm_fl_872 (sm_a0 _) sm_k92 rfl (x := (g3 1092 0)) rfl ?_
        have k10 : (sm_FG (S 53) (S 54) (S 55) (S 56) (S 57) (S 58) (S 59) (S 60) (S 61) (S 62) (S 63) (S 64) (S 27) (S 29) (S 1100007) (S 1100023) (S 1100024) (S 1100025) (S 26) (S 1100029) (S 44) (S 1046 0) (S 1032 0) (S 1076 0) (S 1007 0) ((g3 1092 0) - 1) → (0 ≤ (S 53 ((g3 1092 0) - 1)) ∧ (S 53 ((g3 1092 0) - 1)) < (S 1032 0) ∧ 0 ≤ (S 57 ((g3 1092 0) - 1)) ∧ (S 57 ((g3 1092 0) - 1)) < (S 1046 0) ∧ (S 29 (S 57 ((g3 1092 0) - 1))) = (S 53 ((g3 1092 0) - 1))) ∧ ((S 60 ((g3 1092 0) - 1)) = sm_dp (S 1100024) (S 1100023 (S 57 ((g3 1092 0) - 1)))) ∧ sm_TC (S 61) (S 62) (S 27) (S 1100007) (S 1100023) (S 1100024) (40 * ((g3 1092 0) - 1)) (S 1100023 (S 57 ((g3 1092 0) - 1))) ∧ (0 ≤ (S 1100023 (S 57 ((g3 1092 0) - 1))) → ((S 1100023 (S 57 ((g3 1092 0) - 1))) < (S 1046 0) ∧ (S 26 (S 1100023 (S 57 ((g3 1092 0) - 1)))) = 27 ∧ (S 29 (S 1100023 (S 57 ((g3 1092 0) - 1)))) = (S 53 ((g3 1092 0) - 1))) ∧ sm_SK (S 63) (S 64) (S 44) (S 1100007) (S 1100025) (S 1076 0) (S 1007 0) (400 * ((g3 1092 0) - 1)) ((S 1100007 (S 1100023 (S 57 ((g3 1092 0) - 1))))) ((S 1100025 (S 1100023 (S 57 ((g3 1092 0) - 1)))))) ∧ sm_LK (S 1100029) (S 1076 0) (S 54 ((g3 1092 0) - 1)) (S 53 ((g3 1092 0) - 1)) ∧ sm_VO (S 44) (S 1076 0) (S 1007 0) ((S 55 ((g3 1092 0) - 1))) ((S 56 ((g3 1092 0) - 1))) ∧ sm_FW (S 44) (S 1076 0) (S 59 ((g3 1092 0) - 1))) := sm_FG_at
        have h := h k10
        refine sv_cond_ne hM dX12_toss__46 k9 (t := 65) rfl rfl (fun hc => ?_) (fun hc => ?_)
        · have h := h.1 (hc)
          have k11 : (¬ (S 60 ((g3 1092 0) - 1)) = 0 → (S 60 ((g3 1092 0) - 1)) = sm_dp (S 1100024) (S 1100023 (S 57 ((g3 1092 0) - 1))) → 0 ≤ (S 1100023 (S 57 ((g3 1092 0) - 1)))) := fun a b => sm_dp_ne (b ▸ a)
          have h := h k11
          have k12 : (sm_CT (S 26) (S 27) (S 28) (S 29) (S 1100007) (S 1100023) (S 1100024) (S 1100025) (S 21) (S 1046 0) (S 1032 0) (S 1008 0) (S 1055 0) → sm_TC (S 61) (S 62) (S 27) (S 1100007) (S 1100023) (S 1100024) (40 * ((g3 1092 0) - 1)) (S 1100023 (S 57 ((g3 1092 0) - 1))) → 0 ≤ (S 1100023 (S 57 ((g3 1092 0) - 1))) → (S 1100023 (S 57 ((g3 1092 0) - 1))) < (S 1046 0) → (S 26 (S 1100023 (S 57 ((g3 1092 0) - 1)))) = 27 → (0 ≤ (S 1100024 (S 1100023 (S 57 ((g3 1092 0) - 1)))) ∧ (S 1100024 (S 1100023 (S 57 ((g3 1092 0) - 1)))) < 40 ∧ sm_dp (S 1100024) (S 1100023 (S 57 ((g3 1092 0) - 1))) = (S 1100024 (S 1100023 (S 57 ((g3 1092 0) - 1)))) + 1 ∧ (S 1100024 (S 1100023 (S 57 ((g3 1092 0) - 1)))) = sm_dp (S 1100024) (S 1100023 (S 1100023 (S 57 ((g3 1092 0) - 1)))) ∧ -1 ≤ (S 1100023 (S 1100023 (S 57 ((g3 1092 0) - 1)))) ∧ (S 1100023 (S 1100023 (S 57 ((g3 1092 0) - 1)))) < (S 1100023 (S 57 ((g3 1092 0) - 1)))) ∧ ((S 61 (40 * ((g3 1092 0) - 1) + (S 1100024 (S 1100023 (S 57 ((g3 1092 0) - 1)))))) = (S 27 (S 1100023 (S 57 ((g3 1092 0) - 1)))) ∧ (S 62 (40 * ((g3 1092 0) - 1) + (S 1100024 (S 1100023 (S 57 ((g3 1092 0) - 1)))))) = (S 1100007 (S 1100023 (S 57 ((g3 1092 0) - 1)))) ∧ 0 ≤ (S 1100007 (S 1100023 (S 57 ((g3 1092 0) - 1)))) ∧ (S 1100007 (S 1100023 (S 57 ((g3 1092 0) - 1)))) ≤ 396) ∧ (0 ≤ (S 27 (S 1100023 (S 57 ((g3 1092 0) - 1)))) ∧ (S 27 (S 1100023 (S 57 ((g3 1092 0) - 1)))) < (S 1046 0) ∧ (S 29 (S 27 (S 1100023 (S 57 ((g3 1092 0) - 1))))) = (S 29 (S 1100023 (S 57 ((g3 1092 0) - 1)))) ∧ (S 1100007 (S 27 (S 1100023 (S 57 ((g3 1092 0) - 1))))) = (S 1100007 (S 1100023 (S 57 ((g3 1092 0) - 1)))) + 1 ∧ (S 1100023 (S 27 (S 1100023 (S 57 ((g3 1092 0) - 1))))) = (S 1100023 (S 1100023 (S 57 ((g3 1092 0) - 1)))) ∧ (S 1100025 (S 27 (S 1100023 (S 57 ((g3 1092 0) - 1))))) = (S 1100025 (S 1100023 (S 57 ((g3 1092 0) - 1))))) ∧ sm_TC (S 61) (S 62) (S 27) (S 1100007) (S 1100023) (S 1100024) (40 * ((g3 1092 0) - 1)) (S 1100023 (S 1100023 (S 57 ((g3 1092 0) - 1)))) ∧ (-1 ≤ (S 1100025 (S 1100023 (S 57 ((g3 1092 0) - 1)))) ∧ (S 1100025 (S 1100023 (S 57 ((g3 1092 0) - 1)))) < (S 1100023 (S 57 ((g3 1092 0) - 1))) ∧ (0 ≤ (S 1100025 (S 1100023 (S 57 ((g3 1092 0) - 1)))) → (S 26 (S 1100025 (S 1100023 (S 57 ((g3 1092 0) - 1))))) = 29 ∧ (S 1100007 (S 1100025 (S 1100023 (S 57 ((g3 1092 0) - 1))))) ≤ (S 1100007 (S 1100023 (S 57 ((g3 1092 0) - 1))))))) := fun c q a b d => sm_TC_hand c q a b d
          have h := h k12
          refine sv_aload_n hM dX12_toss__65 rfl rfl ?_
          refine sv_getI hM dX12_toss__66 sm_fl_872 (sm_a0 _) sm_k92 rfl (x := (g3 1092 0)) rfl ?_
          refine sv_iconst (d := (1 : Int)) hM dX12_toss__69 rfl rfl ?_
          refine sv_isub hM dX12_toss__70 rfl ?_
          obtain ⟨x13, e14⟩ : ∃ x : Int, ((g3 1092 0) - (1 : Int)) = x := ⟨_, rfl⟩
          have h := h x13 e14
          refine sv_nameI e14 ?_
          refine sv_istore_n hM dX12_toss__71 (by decide) rfl ?_
          show sv_T sm_XS sm_cs sm_L sm_sh 2 (q_toss_ p1 p2 S) 156 72 [(0, .ref 0), (1, sv_I p1), (2, sv_I p2), (3, sv_I x13)] [] (sv_sts S [1092] g3)
          refine sv_aload_n hM dX12_toss__72 rfl rfl ?_
          refine sv_getA hM dX12_toss__73 sm_fl_191 (sm_a0 _) sm_k100 rfl ?_
          refine sv_iload_n hM dX12_toss__76 rfl rfl ?_
          refine sv_dup2 hM dX12_toss__77 rfl ?_
          obtain ⟨o15, h⟩ := h
          have k16 : sv_R (S 60 x13) := sm_okI ok6 sm_r60 x13
          have h := h k16
          refine sv_iald hM dX12_toss__78 (sm_a60 _) (by decide) o15.1 o15.2 rfl (x := (S 60 x13)) rfl ?_
          refine sv_iconst (d := (1 : Int)) hM dX12_toss__79 rfl rfl ?_
          refine sv_isub hM dX12_toss__80 rfl ?_
          obtain ⟨o17, h⟩ := h
          refine sv_iast sm_X hM dX12_toss__81 (sm_a60 _) (by decide) o15.1 o15.2 rfl ?_
          have ok18 : sm_ok (sv_up (sv_sts S [1092] g3) 60 x13 ((S 60 x13) - (1 : Int))) := sm_upI ok6 sm_r60 o17
          have md19 : sv_mod [1092, 60, 58, 57, 63, 64, 1073, 1109, 1110] S (sv_up (sv_sts S [1092] g3) 60 x13 ((S 60 x13) - (1 : Int))) := sv_mod.up md7 (by decide)
          refine sv_bipush (d := (40 : Int)) hM dX12_toss__82 rfl rfl ?_
          refine sv_iload_n hM dX12_toss__84 rfl rfl ?_
          refine sv_imul hM dX12_toss__85 rfl ?_
          refine sv_aload_n hM dX12_toss__86 rfl rfl ?_
          refine sv_getA hM dX12_toss__87 sm_fl_191 (sm_a0 _) sm_k100 rfl ?_
          refine sv_iload_n hM dX12_toss__90 rfl rfl ?_
          obtain ⟨v20, ev20⟩ : ∃ x : Int, (if x13 = x13 then ((S 60 x13) - (1 : Int)) else (S 60 x13)) = x := ⟨_, rfl⟩
          have h := h v20 ev20
          have k21 : sv_R v20 := ev20 ▸ (sm_okI ok18 sm_r60 x13)
          have h := h k21
          refine sv_iald hM dX12_toss__91 (sm_a60 _) (by decide) o15.1 o15.2 rfl (x := v20) ev20 ?_
          refine sv_iadd hM dX12_toss__92 rfl ?_
          obtain ⟨x22, e23⟩ : ∃ x : Int, (((40 : Int) * x13) + v20) = x := ⟨_, rfl⟩
          have h := h x22 e23
          refine sv_nameI e23 ?_
          refine sv_istore hM dX12_toss__93 (by decide) rfl ?_
          show sv_T sm_XS sm_cs sm_L sm_sh 2 (q_toss_ p1 p2 S) 156 95 [(0, .ref 0), (1, sv_I p1), (2, sv_I p2), (3, sv_I x13), (4, sv_I x22)] [] (sv_up (sv_sts S [1092] g3) 60 x13 ((S 60 x13) - (1 : Int)))
          refine sv_aload_n hM dX12_toss__95 rfl rfl ?_
          refine sv_getA hM dX12_toss__96 sm_fl_185 (sm_a0 _) sm_k98 rfl ?_
          refine sv_iload_n hM dX12_toss__99 rfl rfl ?_
          refine sv_aload_n hM dX12_toss__100 rfl rfl ?_
          refine sv_getA hM dX12_toss__101 sm_fl_197 (sm_a0 _) sm_k102 rfl ?_
          refine sv_iload hM dX12_toss__104 rfl rfl ?_
          obtain ⟨o24, h⟩ := h
          have k25 : sv_R (S 62 x22) := sm_okI ok18 sm_r62 x22
          have h := h k25
          refine sv_iald hM dX12_toss__106 (sm_a62 _) (by decide) o24.1 o24.2 rfl (x := (S 62 x22)) rfl ?_
          refine sv_iast sm_X hM dX12_toss__107 (sm_a58 _) (by decide) o15.1 o15.2 rfl ?_
          have ok26 : sm_ok (sv_up (sv_up (sv_sts S [1092] g3) 60 x13 ((S 60 x13) - (1 : Int))) 58 x13 (S 62 x22)) := sm_upI ok18 sm_r58 k25
          have md27 : sv_mod [1092, 60, 58, 57, 63, 64, 1073, 1109, 1110] S (sv_up (sv_up (sv_sts S [1092] g3) 60 x13 ((S 60 x13) - (1 : Int))) 58 x13 (S 62 x22)) := sv_mod.up md19 (by decide)
          refine sv_aload_n hM dX12_toss__108 rfl rfl ?_
          refine sv_iload_n hM dX12_toss__109 rfl rfl ?_
          refine sv_iload_n hM dX12_toss__110 rfl rfl ?_
          obtain ⟨o28, h⟩ := h
          refine sv_callV hM dX12_toss__111 sm_iv_885 (by decide) (sm_a0 _) rfl rfl (Nat.le_of_ble_eq_true rfl) sm_h152 (Nat.le_of_ble_eq_true rfl) (Nat.le_of_ble_eq_true rfl) (F' := 1) (Nat.le_of_ble_eq_true rfl) rfl (t_push p1 p2 (sv_up (sv_up (sv_sts S [1092] g3) 60 x13 ((S 60 x13) - (1 : Int))) 58 x13 (S 62 x22)) ok26 hp1 hp2 o28) (fun v S1 hq => ?_)
          obtain ⟨rfl, ok30, md31, hpo32⟩ := hq
          obtain ⟨g29, rfl⟩ : ∃ g, S1 = sv_sts (sv_up (sv_up (sv_sts S [1092] g3) 60 x13 ((S 60 x13) - (1 : Int))) 58 x13 (S 62 x22)) [63, 64, 58] g := ⟨_, md31.eq⟩
          show sv_T sm_XS sm_cs sm_L sm_sh 2 (q_toss_ p1 p2 S) 156 114 [(0, .ref 0), (1, sv_I p1), (2, sv_I p2), (3, sv_I x13), (4, sv_I x22)] [] (sv_sts (sv_up (sv_up (sv_sts S [1092] g3) 60 x13 ((S 60 x13) - (1 : Int))) 58 x13 (S 62 x22)) [63, 64, 58] g29)
          have md33 : sv_mod [1092, 60, 58, 57, 63, 64, 1073, 1109, 1110] S (sv_sts (sv_up (sv_up (sv_sts S [1092] g3) 60 x13 ((S 60 x13) - (1 : Int))) 58 x13 (S 62 x22)) [63, 64, 58] g29) := sv_mod.sts md27 (by decide)
          have h := h g29 hpo32
          refine sv_aload_n hM dX12_toss__114 rfl rfl ?_
          refine sv_getA hM dX12_toss__115 sm_fl_182 (sm_a0 _) sm_k97 rfl ?_
          refine sv_iload_n hM dX12_toss__118 rfl rfl ?_
          refine sv_aload_n hM dX12_toss__119 rfl rfl ?_
          refine sv_getA hM dX12_toss__120 sm_fl_194 (sm_a0 _) sm_k101 rfl ?_
          refine sv_iload hM dX12_toss__123 rfl rfl ?_
          have k34 : sv_R (S 61 x22) := sm_okI ok30 sm_r61 x22
          have h := h k34
          refine sv_iald hM dX12_toss__125 (sm_a61 _) (by decide) o24.1 o24.2 rfl (x := (S 61 x22)) rfl ?_
          refine sv_iast sm_X hM dX12_toss__126 (sm_a57 _) (by decide) o15.1 o15.2 rfl ?_
          have ok35 : sm_ok (sv_up (sv_sts (sv_up (sv_up (sv_sts S [1092] g3) 60 x13 ((S 60 x13) - (1 : Int))) 58 x13 (S 62 x22)) [63, 64, 58] g29) 57 x13 (S 61 x22)) := sm_upI ok30 sm_r57 k34
          have md36 : sv_mod [1092, 60, 58, 57, 63, 64, 1073, 1109, 1110] S (sv_up (sv_sts (sv_up (sv_up (sv_sts S [1092] g3) 60 x13 ((S 60 x13) - (1 : Int))) 58 x13 (S 62 x22)) [63, 64, 58] g29) 57 x13 (S 61 x22)) := sv_mod.up md33 (by decide)
          exact sv_vret hM dX12_toss__127 rfl ⟨rfl, ok35, md36, h⟩
        · have h := h.2 (hc)
          refine sv_aload_n hM dX12_toss__49 rfl rfl ?_
          refine sv_iconst (d := (3 : Int)) hM dX12_toss__50 rfl rfl ?_
          refine sv_putI sm_X hM dX12_toss__51 sm_fp_773 (sm_a0 _) sm_q73 (Or.inl rfl) rfl rfl rfl rfl ?_
          have ok37 : sm_ok (sv_up (sv_sts S [1092] g3) 1073 0 (3 : Int)) := sm_upI ok6 sm_r1073 (⟨by decide, by decide⟩ : sv_R (3 : Int))
          have md38 : sv_mod [1092, 60, 58, 57, 63, 64, 1073, 1109, 1110] S (sv_up (sv_sts S [1092] g3) 1073 0 (3 : Int)) := sv_mod.up md7 (by decide)
          refine sv_aload_n hM dX12_toss__54 rfl rfl ?_
          refine sv_iload_n hM dX12_toss__55 rfl rfl ?_
          refine sv_putI sm_X hM dX12_toss__56 sm_fp_891 (sm_a0 _) sm_q109 (Or.inl rfl) rfl rfl rfl rfl ?_
          have ok39 : sm_ok (sv_up (sv_up (sv_sts S [1092] g3) 1073 0 (3 : Int)) 1109 0 p1) := sm_upI ok37 sm_r1109 hp1
          have md40 : sv_mod [1092, 60, 58, 57, 63, 64, 1073, 1109, 1110] S (sv_up (sv_up (sv_sts S [1092] g3) 1073 0 (3 : Int)) 1109 0 p1) := sv_mod.up md38 (by decide)
          refine sv_aload_n hM dX12_toss__59 rfl rfl ?_
          refine sv_iload_n hM dX12_toss__60 rfl rfl ?_
          refine sv_putI sm_X hM dX12_toss__61 sm_fp_894 (sm_a0 _) sm_q110 (Or.inl rfl) rfl rfl rfl rfl ?_
          have ok41 : sm_ok (sv_up (sv_up (sv_up (sv_sts S [1092] g3) 1073 0 (3 : Int)) 1109 0 p1) 1110 0 p2) := sm_upI ok39 sm_r1110 hp2
          have md42 : sv_mod [1092, 60, 58, 57, 63, 64, 1073, 1109, 1110] S (sv_up (sv_up (sv_up (sv_sts S [1092] g3) 1073 0 (3 : Int)) 1109 0 p1) 1110 0 p2) := sv_mod.up md40 (by decide)
          exact sv_vret hM dX12_toss__64 rfl ⟨rfl, ok41, md42, h⟩
      · have h := h.2 (hc)
        refine sv_aload_n hM dX12_toss__15 rfl rfl ?_
        refine sv_getA hM dX12_toss__16 sm_fl_191 (sm_a0 _) sm_k100 rfl ?_
        refine sv_aload_n hM dX12_toss__19 rfl rfl ?_
        refine sv_getI hM dX12_toss__20 sm_fl_872 (sm_a0 _) sm_k92 rfl (x := (g3 1092 0)) rfl ?_
        refine sv_iconst (d := (1 : Int)) hM dX12_toss__23 rfl rfl ?_
        refine sv_isub hM dX12_toss__24 rfl ?_
        obtain ⟨o43, h⟩ := h
        have k44 : sv_R (S 60 ((g3 1092 0) - (1 : Int))) := sm_okI ok6 sm_r60 ((g3 1092 0) - (1 : Int))
        have h := h k44
        refine sv_iald hM dX12_toss__25 (sm_a60 _) (by decide) o43.1 o43.2 rfl (x := (S 60 ((g3 1092 0) - (1 : Int)))) rfl ?_
        refine sv_cond_ne hM dX12_toss__26 k44 (t := 42) rfl rfl (fun hc => ?_) (fun hc => ?_)
        · have h := h.1 (hc)
          refine sv_aload_n hM dX12_toss__42 rfl rfl ?_
          refine sv_getI hM dX12_toss__43 sm_fl_872 (sm_a0 _) sm_k92 rfl (x := (g3 1092 0)) rfl ?_
          have k45 : (sm_FG (S 53) (S 54) (S 55) (S 56) (S 57) (S 58) (S 59) (S 60) (S 61) (S 62) (S 63) (S 64) (S 27) (S 29) (S 1100007) (S 1100023) (S 1100024) (S 1100025) (S 26) (S 1100029) (S 44) (S 1046 0) (S 1032 0) (S 1076 0) (S 1007 0) ((g3 1092 0) - 1) → (0 ≤ (S 53 ((g3 1092 0) - 1)) ∧ (S 53 ((g3 1092 0) - 1)) < (S 1032 0) ∧ 0 ≤ (S 57 ((g3 1092 0) - 1)) ∧ (S 57 ((g3 1092 0) - 1)) < (S 1046 0) ∧ (S 29 (S 57 ((g3 1092 0) - 1))) = (S 53 ((g3 1092 0) - 1))) ∧ ((S 60 ((g3 1092 0) - 1)) = sm_dp (S 1100024) (S 1100023 (S 57 ((g3 1092 0) - 1)))) ∧ sm_TC (S 61) (S 62) (S 27) (S 1100007) (S 1100023) (S 1100024) (40 * ((g3 1092 0) - 1)) (S 1100023 (S 57 ((g3 1092 0) - 1))) ∧ (0 ≤ (S 1100023 (S 57 ((g3 1092 0) - 1))) → ((S 1100023 (S 57 ((g3 1092 0) - 1))) < (S 1046 0) ∧ (S 26 (S 1100023 (S 57 ((g3 1092 0) - 1)))) = 27 ∧ (S 29 (S 1100023 (S 57 ((g3 1092 0) - 1)))) = (S 53 ((g3 1092 0) - 1))) ∧ sm_SK (S 63) (S 64) (S 44) (S 1100007) (S 1100025) (S 1076 0) (S 1007 0) (400 * ((g3 1092 0) - 1)) ((S 1100007 (S 1100023 (S 57 ((g3 1092 0) - 1))))) ((S 1100025 (S 1100023 (S 57 ((g3 1092 0) - 1)))))) ∧ sm_LK (S 1100029) (S 1076 0) (S 54 ((g3 1092 0) - 1)) (S 53 ((g3 1092 0) - 1)) ∧ sm_VO (S 44) (S 1076 0) (S 1007 0) ((S 55 ((g3 1092 0) - 1))) ((S 56 ((g3 1092 0) - 1))) ∧ sm_FW (S 44) (S 1076 0) (S 59 ((g3 1092 0) - 1))) := sm_FG_at
          have h := h k45
          refine sv_cond_ne hM dX12_toss__46 k9 (t := 65) rfl rfl (fun hc => ?_) (fun hc => ?_)
          · have h := h.1 (hc)
            have k46 : (¬ (S 60 ((g3 1092 0) - 1)) = 0 → (S 60 ((g3 1092 0) - 1)) = sm_dp (S 1100024) (S 1100023 (S 57 ((g3 1092 0) - 1))) → 0 ≤ (S 1100023 (S 57 ((g3 1092 0) - 1)))) := fun a b => sm_dp_ne (b ▸ a)
            have h := h k46
            have k47 : (sm_CT (S 26) (S 27) (S 28) (S 29) (S 1100007) (S 1100023) (S 1100024) (S 1100025) (S 21) (S 1046 0) (S 1032 0) (S 1008 0) (S 1055 0) → sm_TC (S 61) (S 62) (S 27) (S 1100007) (S 1100023) (S 1100024) (40 * ((g3 1092 0) - 1)) (S 1100023 (S 57 ((g3 1092 0) - 1))) → 0 ≤ (S 1100023 (S 57 ((g3 1092 0) - 1))) → (S 1100023 (S 57 ((g3 1092 0) - 1))) < (S 1046 0) → (S 26 (S 1100023 (S 57 ((g3 1092 0) - 1)))) = 27 → (0 ≤ (S 1100024 (S 1100023 (S 57 ((g3 1092 0) - 1)))) ∧ (S 1100024 (S 1100023 (S 57 ((g3 1092 0) - 1)))) < 40 ∧ sm_dp (S 1100024) (S 1100023 (S 57 ((g3 1092 0) - 1))) = (S 1100024 (S 1100023 (S 57 ((g3 1092 0) - 1)))) + 1 ∧ (S 1100024 (S 1100023 (S 57 ((g3 1092 0) - 1)))) = sm_dp (S 1100024) (S 1100023 (S 1100023 (S 57 ((g3 1092 0) - 1)))) ∧ -1 ≤ (S 1100023 (S 1100023 (S 57 ((g3 1092 0) - 1)))) ∧ (S 1100023 (S 1100023 (S 57 ((g3 1092 0) - 1)))) < (S 1100023 (S 57 ((g3 1092 0) - 1)))) ∧ ((S 61 (40 * ((g3 1092 0) - 1) + (S 1100024 (S 1100023 (S 57 ((g3 1092 0) - 1)))))) = (S 27 (S 1100023 (S 57 ((g3 1092 0) - 1)))) ∧ (S 62 (40 * ((g3 1092 0) - 1) + (S 1100024 (S 1100023 (S 57 ((g3 1092 0) - 1)))))) = (S 1100007 (S 1100023 (S 57 ((g3 1092 0) - 1)))) ∧ 0 ≤ (S 1100007 (S 1100023 (S 57 ((g3 1092 0) - 1)))) ∧ (S 1100007 (S 1100023 (S 57 ((g3 1092 0) - 1)))) ≤ 396) ∧ (0 ≤ (S 27 (S 1100023 (S 57 ((g3 1092 0) - 1)))) ∧ (S 27 (S 1100023 (S 57 ((g3 1092 0) - 1)))) < (S 1046 0) ∧ (S 29 (S 27 (S 1100023 (S 57 ((g3 1092 0) - 1))))) = (S 29 (S 1100023 (S 57 ((g3 1092 0) - 1)))) ∧ (S 1100007 (S 27 (S 1100023 (S 57 ((g3 1092 0) - 1))))) = (S 1100007 (S 1100023 (S 57 ((g3 1092 0) - 1)))) + 1 ∧ (S 1100023 (S 27 (S 1100023 (S 57 ((g3 1092 0) - 1))))) = (S 1100023 (S 1100023 (S 57 ((g3 1092 0) - 1)))) ∧ (S 1100025 (S 27 (S 1100023 (S 57 ((g3 1092 0) - 1))))) = (S 1100025 (S 1100023 (S 57 ((g3 1092 0) - 1))))) ∧ sm_TC (S 61) (S 62) (S 27) (S 1100007) (S 1100023) (S 1100024) (40 * ((g3 1092 0) - 1)) (S 1100023 (S 1100023 (S 57 ((g3 1092 0) - 1)))) ∧ (-1 ≤ (S 1100025 (S 1100023 (S 57 ((g3 1092 0) - 1)))) ∧ (S 1100025 (S 1100023 (S 57 ((g3 1092 0) - 1)))) < (S 1100023 (S 57 ((g3 1092 0) - 1))) ∧ (0 ≤ (S 1100025 (S 1100023 (S 57 ((g3 1092 0) - 1)))) → (S 26 (S 1100025 (S 1100023 (S 57 ((g3 1092 0) - 1))))) = 29 ∧ (S 1100007 (S 1100025 (S 1100023 (S 57 ((g3 1092 0) - 1))))) ≤ (S 1100007 (S 1100023 (S 57 ((g3 1092 0) - 1))))))) := fun c q a b d => sm_TC_hand c q a b d
            have h := h k47
            refine sv_aload_n hM dX12_toss__65 rfl rfl ?_
            refine sv_getI hM dX12_toss__66 sm_fl_872 (sm_a0 _) sm_k92 rfl (x := (g3 1092 0)) rfl ?_
            refine sv_iconst (d := (1 : Int)) hM dX12_toss__69 rfl rfl ?_
            refine sv_isub hM dX12_toss__70 rfl ?_
            obtain ⟨x48, e49⟩ : ∃ x : Int, ((g3 1092 0) - (1 : Int)) = x := ⟨_, rfl⟩
            have h := h x48 e49
            refine sv_nameI e49 ?_
            refine sv_istore_n hM dX12_toss__71 (by decide) rfl ?_
            show sv_T sm_XS sm_cs sm_L sm_sh 2 (q_toss_ p1 p2 S) 156 72 [(0, .ref 0), (1, sv_I p1), (2, sv_I p2), (3, sv_I x48)] [] (sv_sts S [1092] g3)
            refine sv_aload_n hM dX12_toss__72 rfl rfl ?_
            refine sv_getA hM dX12_toss__73 sm_fl_191 (sm_a0 _) sm_k100 rfl ?_
            refine sv_iload_n hM dX12_toss__76 rfl rfl ?_
            refine sv_dup2 hM dX12_toss__77 rfl ?_
            obtain ⟨o50, h⟩ := h
            have k51 : sv_R (S 60 x48) := sm_okI ok6 sm_r60 x48
            have h := h k51
            refine sv_iald hM dX12_toss__78 (sm_a60 _) (by decide) o50.1 o50.2 rfl (x := (S 60 x48)) rfl ?_
            refine sv_iconst (d := (1 : Int)) hM dX12_toss__79 rfl rfl ?_
            refine sv_isub hM dX12_toss__80 rfl ?_
            obtain ⟨o52, h⟩ := h
            refine sv_iast sm_X hM dX12_toss__81 (sm_a60 _) (by decide) o50.1 o50.2 rfl ?_
            have ok53 : sm_ok (sv_up (sv_sts S [1092] g3) 60 x48 ((S 60 x48) - (1 : Int))) := sm_upI ok6 sm_r60 o52
            have md54 : sv_mod [1092, 60, 58, 57, 63, 64, 1073, 1109, 1110] S (sv_up (sv_sts S [1092] g3) 60 x48 ((S 60 x48) - (1 : Int))) := sv_mod.up md7 (by decide)
            refine sv_bipush (d := (40 : Int)) hM dX12_toss__82 rfl rfl ?_
            refine sv_iload_n hM dX12_toss__84 rfl rfl ?_
            refine sv_imul hM dX12_toss__85 rfl ?_
            refine sv_aload_n hM dX12_toss__86 rfl rfl ?_
            refine sv_getA hM dX12_toss__87 sm_fl_191 (sm_a0 _) sm_k100 rfl ?_
            refine sv_iload_n hM dX12_toss__90 rfl rfl ?_
            obtain ⟨v55, ev55⟩ : ∃ x : Int, (if x48 = x48 then ((S 60 x48) - (1 : Int)) else (S 60 x48)) = x := ⟨_, rfl⟩
            have h := h v55 ev55
            have k56 : sv_R v55 := ev55 ▸ (sm_okI ok53 sm_r60 x48)
            have h := h k56
            refine sv_iald hM dX12_toss__91 (sm_a60 _) (by decide) o50.1 o50.2 rfl (x := v55) ev55 ?_
            refine sv_iadd hM dX12_toss__92 rfl ?_
            obtain ⟨x57, e58⟩ : ∃ x : Int, (((40 : Int) * x48) + v55) = x := ⟨_, rfl⟩
            have h := h x57 e58
            refine sv_nameI e58 ?_
            refine sv_istore hM dX12_toss__93 (by decide) rfl ?_
            show sv_T sm_XS sm_cs sm_L sm_sh 2 (q_toss_ p1 p2 S) 156 95 [(0, .ref 0), (1, sv_I p1), (2, sv_I p2), (3, sv_I x48), (4, sv_I x57)] [] (sv_up (sv_sts S [1092] g3) 60 x48 ((S 60 x48) - (1 : Int)))
            refine sv_aload_n hM dX12_toss__95 rfl rfl ?_
            refine sv_getA hM dX12_toss__96 sm_fl_185 (sm_a0 _) sm_k98 rfl ?_
            refine sv_iload_n hM dX12_toss__99 rfl rfl ?_
            refine sv_aload_n hM dX12_toss__100 rfl rfl ?_
            refine sv_getA hM dX12_toss__101 sm_fl_197 (sm_a0 _) sm_k102 rfl ?_
            refine sv_iload hM dX12_toss__104 rfl rfl ?_
            obtain ⟨o59, h⟩ := h
            have k60 : sv_R (S 62 x57) := sm_okI ok53 sm_r62 x57
            have h := h k60
            refine sv_iald hM dX12_toss__106 (sm_a62 _) (by decide) o59.1 o59.2 rfl (x := (S 62 x57)) rfl ?_
            refine sv_iast sm_X hM dX12_toss__107 (sm_a58 _) (by decide) o50.1 o50.2 rfl ?_
            have ok61 : sm_ok (sv_up (sv_up (sv_sts S [1092] g3) 60 x48 ((S 60 x48) - (1 : Int))) 58 x48 (S 62 x57)) := sm_upI ok53 sm_r58 k60
            have md62 : sv_mod [1092, 60, 58, 57, 63, 64, 1073, 1109, 1110] S (sv_up (sv_up (sv_sts S [1092] g3) 60 x48 ((S 60 x48) - (1 : Int))) 58 x48 (S 62 x57)) := sv_mod.up md54 (by decide)
            refine sv_aload_n hM dX12_toss__108 rfl rfl ?_
            refine sv_iload_n hM dX12_toss__109 rfl rfl ?_
            refine sv_iload_n hM dX12_toss__110 rfl rfl ?_
            obtain ⟨o63, h⟩ := h
            refine sv_callV hM dX12_toss__111 sm_iv_885 (by decide) (sm_a0 _) rfl rfl (Nat.le_of_ble_eq_true rfl) sm_h152 (Nat.le_of_ble_eq_true rfl) (Nat.le_of_ble_eq_true rfl) (F' := 1) (Nat.le_of_ble_eq_true rfl) rfl (t_push p1 p2 (sv_up (sv_up (sv_sts S [1092] g3) 60 x48 ((S 60 x48) - (1 : Int))) 58 x48 (S 62 x57)) ok61 hp1 hp2 o63) (fun v S1 hq => ?_)
            obtain ⟨rfl, ok65, md66, hpo67⟩ := hq
            obtain ⟨g64, rfl⟩ : ∃ g, S1 = sv_sts (sv_up (sv_up (sv_sts S [1092] g3) 60 x48 ((S 60 x48) - (1 : Int))) 58 x48 (S 62 x57)) [63, 64, 58] g := ⟨_, md66.eq⟩
            show sv_T sm_XS sm_cs sm_L sm_sh 2 (q_toss_ p1 p2 S) 156 114 [(0, .ref 0), (1, sv_I p1), (2, sv_I p2), (3, sv_I x48), (4, sv_I x57)] [] (sv_sts (sv_up (sv_up (sv_sts S [1092] g3) 60 x48 ((S 60 x48) - (1 : Int))) 58 x48 (S 62 x57)) [63, 64, 58] g64)
            have md68 : sv_mod [1092, 60, 58, 57, 63, 64, 1073, 1109, 1110] S (sv_sts (sv_up (sv_up (sv_sts S [1092] g3) 60 x48 ((S 60 x48) - (1 : Int))) 58 x48 (S 62 x57)) [63, 64, 58] g64) := sv_mod.sts md62 (by decide)
            have h := h g64 hpo67
            refine sv_aload_n hM dX12_toss__114 rfl rfl ?_
            refine sv_getA hM dX12_toss__115 sm_fl_182 (sm_a0 _) sm_k97 rfl ?_
            refine sv_iload_n hM dX12_toss__118 rfl rfl ?_
            refine sv_aload_n hM dX12_toss__119 rfl rfl ?_
            refine sv_getA hM dX12_toss__120 sm_fl_194 (sm_a0 _) sm_k101 rfl ?_
            refine sv_iload hM dX12_toss__123 rfl rfl ?_
            have k69 : sv_R (S 61 x57) := sm_okI ok65 sm_r61 x57
            have h := h k69
            refine sv_iald hM dX12_toss__125 (sm_a61 _) (by decide) o59.1 o59.2 rfl (x := (S 61 x57)) rfl ?_
            refine sv_iast sm_X hM dX12_toss__126 (sm_a57 _) (by decide) o50.1 o50.2 rfl ?_
            have ok70 : sm_ok (sv_up (sv_sts (sv_up (sv_up (sv_sts S [1092] g3) 60 x48 ((S 60 x48) - (1 : Int))) 58 x48 (S 62 x57)) [63, 64, 58] g64) 57 x48 (S 61 x57)) := sm_upI ok65 sm_r57 k69
            have md71 : sv_mod [1092, 60, 58, 57, 63, 64, 1073, 1109, 1110] S (sv_up (sv_sts (sv_up (sv_up (sv_sts S [1092] g3) 60 x48 ((S 60 x48) - (1 : Int))) 58 x48 (S 62 x57)) [63, 64, 58] g64) 57 x48 (S 61 x57)) := sv_mod.up md68 (by decide)
            exact sv_vret hM dX12_toss__127 rfl ⟨rfl, ok70, md71, h⟩
          · have h := h.2 (hc)
            refine sv_aload_n hM dX12_toss__49 rfl rfl ?_
            refine sv_iconst (d := (3 : Int)) hM dX12_toss__50 rfl rfl ?_
            refine sv_putI sm_X hM dX12_toss__51 sm_fp_773 (sm_a0 _) sm_q73 (Or.inl rfl) rfl rfl rfl rfl ?_
            have ok72 : sm_ok (sv_up (sv_sts S [1092] g3) 1073 0 (3 : Int)) := sm_upI ok6 sm_r1073 (⟨by decide, by decide⟩ : sv_R (3 : Int))
            have md73 : sv_mod [1092, 60, 58, 57, 63, 64, 1073, 1109, 1110] S (sv_up (sv_sts S [1092] g3) 1073 0 (3 : Int)) := sv_mod.up md7 (by decide)
            refine sv_aload_n hM dX12_toss__54 rfl rfl ?_
            refine sv_iload_n hM dX12_toss__55 rfl rfl ?_
            refine sv_putI sm_X hM dX12_toss__56 sm_fp_891 (sm_a0 _) sm_q109 (Or.inl rfl) rfl rfl rfl rfl ?_
            have ok74 : sm_ok (sv_up (sv_up (sv_sts S [1092] g3) 1073 0 (3 : Int)) 1109 0 p1) := sm_upI ok72 sm_r1109 hp1
            have md75 : sv_mod [1092, 60, 58, 57, 63, 64, 1073, 1109, 1110] S (sv_up (sv_up (sv_sts S [1092] g3) 1073 0 (3 : Int)) 1109 0 p1) := sv_mod.up md73 (by decide)
            refine sv_aload_n hM dX12_toss__59 rfl rfl ?_
            refine sv_iload_n hM dX12_toss__60 rfl rfl ?_
            refine sv_putI sm_X hM dX12_toss__61 sm_fp_894 (sm_a0 _) sm_q110 (Or.inl rfl) rfl rfl rfl rfl ?_
            have ok76 : sm_ok (sv_up (sv_up (sv_up (sv_sts S [1092] g3) 1073 0 (3 : Int)) 1109 0 p1) 1110 0 p2) := sm_upI ok74 sm_r1110 hp2
            have md77 : sv_mod [1092, 60, 58, 57, 63, 64, 1073, 1109, 1110] S (sv_up (sv_up (sv_up (sv_sts S [1092] g3) 1073 0 (3 : Int)) 1109 0 p1) 1110 0 p2) := sv_mod.up md75 (by decide)
            exact sv_vret hM dX12_toss__64 rfl ⟨rfl, ok76, md77, h⟩
        · have h := h.2 (hc)
          refine sv_aload_n hM dX12_toss__29 rfl rfl ?_
          refine sv_dupA hM dX12_toss__30 rfl ?_
          refine sv_getI hM dX12_toss__31 sm_fl_872 (sm_a0 _) sm_k92 rfl (x := (g3 1092 0)) rfl ?_
          refine sv_iconst (d := (1 : Int)) hM dX12_toss__34 rfl rfl ?_
          refine sv_isub hM dX12_toss__35 rfl ?_
          obtain ⟨o78, h⟩ := h
          refine sv_putI sm_X hM dX12_toss__36 sm_fp_872 (sm_a0 _) sm_q92 (Or.inl rfl) rfl rfl rfl rfl ?_
          have ok79 : sm_ok (sv_up (sv_sts S [1092] g3) 1092 0 ((g3 1092 0) - (1 : Int))) := sm_upI ok6 sm_r1092 o78
          have md80 : sv_mod [1092, 60, 58, 57, 63, 64, 1073, 1109, 1110] S (sv_up (sv_sts S [1092] g3) 1092 0 ((g3 1092 0) - (1 : Int))) := sv_mod.up md7 (by decide)
          have md81 : sv_mod [1092] S (sv_up (sv_sts S [1092] g3) 1092 0 ((g3 1092 0) - (1 : Int))) := sv_mod.up md8 (by decide)
          have k82 : (sm_FL (S 53) (S 54) (S 55) (S 56) (S 57) (S 58) (S 59) (S 60) (S 61) (S 62) (S 63) (S 64) (S 27) (S 29) (S 1100007) (S 1100023) (S 1100024) (S 1100025) (S 26) (S 1100029) (S 44) (S 1046 0) (S 1032 0) (S 1076 0) (S 1007 0) (((S 1092 0) - 1)) → sm_CT (S 26) (S 27) (S 28) (S 29) (S 1100007) (S 1100023) (S 1100024) (S 1100025) (S 21) (S 1046 0) (S 1032 0) (S 1008 0) (S 1055 0) → sm_CL (S 1100007) (S 1100023) (S 1100025) (S 1046 0) → 0 ≤ ((g3 1092 0) - (1 : Int)) - 1 → ((g3 1092 0) - (1 : Int)) - 1 < (S 1092 0) - 1 → sm_FG (S 53) (S 54) (S 55) (S 56) (S 57) (S 58) (S 59) (S 60) (S 61) (S 62) (S 63) (S 64) (S 27) (S 29) (S 1100007) (S 1100023) (S 1100024) (S 1100025) (S 26) (S 1100029) (S 44) (S 1046 0) (S 1032 0) (S 1076 0) (S 1007 0) (((g3 1092 0) - (1 : Int)) - 1)) := fun w c l a b => sm_FG_0 w c l _ a b
          have h := h k82
          refine sv_goto hM dX12_toss__39 (pc' := 8) rfl ?_
          have eS := sv_mod.eq md81
          have hb := ih4 ((sv_up (sv_sts S [1092] g3) 1092 0 ((g3 1092 0) - (1 : Int)))) ⟨(by rw [← eS]; exact ok79), h.1⟩ h.2
          have hb : sv_T sm_XS sm_cs sm_L sm_sh 2 (q_toss_ p1 p2 S) 156 8 [(0, .ref 0), (1, sv_I p1), (2, sv_I p2)] [] (sv_up (sv_sts S [1092] g3) 1092 0 ((g3 1092 0) - (1 : Int))) := Eq.mpr (congrArg (fun Z => sv_T sm_XS sm_cs sm_L sm_sh 2 (q_toss_ p1 p2 S) 156 8 [(0, .ref 0), (1, sv_I p1), (2, sv_I p2)] [] Z) eS) hb
          exact sv_less (lv := [(0, .ref 0), (1, sv_I p1), (2, sv_I p2)]) (sv_Sub_cons rfl (sv_Sub_cons rfl (sv_Sub_cons rfl sv_Sub_nil))) hb
    have eS := sv_mod.eq (sv_mod.rf (l := [1092]) (S := S))
    have hb := hJ (S) ⟨(by rw [← eS]; exact hok), hin5⟩
    have hb : sv_T sm_XS sm_cs sm_L sm_sh 2 (q_toss_ p1 p2 S) 156 8 [(0, .ref 0), (1, sv_I p1), (2, sv_I p2)] [] S := Eq.mpr (congrArg (fun Z => sv_T sm_XS sm_cs sm_L sm_sh 2 (q_toss_ p1 p2 S) 156 8 [(0, .ref 0), (1, sv_I p1), (2, sv_I p2)] [] Z) eS) hb
    exact hb
  · have h := h.2 (hc)
    exact sv_vret hM dX12_toss__7 rfl ⟨rfl, hok, sv_mod.rf, h⟩
