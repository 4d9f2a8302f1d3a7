theorem dX12_emit_0 : decode cX12_emit 0 = .ok (.aload_n 0, 1) := by decide +kernel
theorem dX12_emit_1 : decode cX12_emit 1 = .ok (.getfield 606, 3) := by decide +kernel
theorem dX12_emit_4 : decode cX12_emit 4 = .ok (.sipush 600, 3) := by decide +kernel
theorem dX12_emit_7 : decode cX12_emit 7 = .ok (.if_icmp .ne 9, 3) := by decide +kernel
theorem dX12_emit_10 : decode cX12_emit 10 = .ok (.aload_n 0, 1) := by decide +kernel
theorem dX12_emit_11 : decode cX12_emit 11 = .ok (.iconst 1, 1) := by decide +kernel
theorem dX12_emit_12 : decode cX12_emit 12 = .ok (.putfield 609, 3) := by decide +kernel
theorem dX12_emit_15 : decode cX12_emit 15 = .ok (.return_, 1) := by decide +kernel
theorem dX12_emit_16 : decode cX12_emit 16 = .ok (.aload_n 0, 1) := by decide +kernel
theorem dX12_emit_17 : decode cX12_emit 17 = .ok (.getfield 89, 3) := by decide +kernel
theorem dX12_emit_20 : decode cX12_emit 20 = .ok (.aload_n 0, 1) := by decide +kernel
theorem dX12_emit_21 : decode cX12_emit 21 = .ok (.getfield 606, 3) := by decide +kernel
theorem dX12_emit_24 : decode cX12_emit 24 = .ok (.iload_n 1, 1) := by decide +kernel
theorem dX12_emit_25 : decode cX12_emit 25 = .ok (.iastore, 1) := by decide +kernel
theorem dX12_emit_26 : decode cX12_emit 26 = .ok (.aload_n 0, 1) := by decide +kernel
theorem dX12_emit_27 : decode cX12_emit 27 = .ok (.getfield 92, 3) := by decide +kernel
theorem dX12_emit_30 : decode cX12_emit 30 = .ok (.aload_n 0, 1) := by decide +kernel
theorem dX12_emit_31 : decode cX12_emit 31 = .ok (.getfield 606, 3) := by decide +kernel
theorem dX12_emit_34 : decode cX12_emit 34 = .ok (.iload_n 2, 1) := by decide +kernel
theorem dX12_emit_35 : decode cX12_emit 35 = .ok (.iastore, 1) := by decide +kernel
theorem dX12_emit_36 : decode cX12_emit 36 = .ok (.aload_n 0, 1) := by decide +kernel
theorem dX12_emit_37 : decode cX12_emit 37 = .ok (.getfield 95, 3) := by decide +kernel
theorem dX12_emit_40 : decode cX12_emit 40 = .ok (.aload_n 0, 1) := by decide +kernel
theorem dX12_emit_41 : decode cX12_emit 41 = .ok (.getfield 606, 3) := by decide +kernel
theorem dX12_emit_44 : decode cX12_emit 44 = .ok (.iload_n 3, 1) := by decide +kernel
theorem dX12_emit_45 : decode cX12_emit 45 = .ok (.iastore, 1) := by decide +kernel
theorem dX12_emit_46 : decode cX12_emit 46 = .ok (.aload_n 0, 1) := by decide +kernel
theorem dX12_emit_47 : decode cX12_emit 47 = .ok (.getfield 98, 3) := by decide +kernel
theorem dX12_emit_50 : decode cX12_emit 50 = .ok (.aload_n 0, 1) := by decide +kernel
theorem dX12_emit_51 : decode cX12_emit 51 = .ok (.getfield 606, 3) := by decide +kernel
theorem dX12_emit_54 : decode cX12_emit 54 = .ok (.aload_n 0, 1) := by decide +kernel
theorem dX12_emit_55 : decode cX12_emit 55 = .ok (.getfield 612, 3) := by decide +kernel
theorem dX12_emit_58 : decode cX12_emit 58 = .ok (.iastore, 1) := by decide +kernel
theorem dX12_emit_59 : decode cX12_emit 59 = .ok (.aload_n 0, 1) := by decide +kernel
theorem dX12_emit_60 : decode cX12_emit 60 = .ok (.dup, 1) := by decide +kernel
theorem dX12_emit_61 : decode cX12_emit 61 = .ok (.getfield 606, 3) := by decide +kernel
theorem dX12_emit_64 : decode cX12_emit 64 = .ok (.iconst 1, 1) := by decide +kernel
theorem dX12_emit_65 : decode cX12_emit 65 = .ok (.iadd, 1) := by decide +kernel
theorem dX12_emit_66 : decode cX12_emit 66 = .ok (.putfield 606, 3) := by decide +kernel
theorem dX12_emit_69 : decode cX12_emit 69 = .ok (.return_, 1) := by decide +kernel
/-! what becomes of code that is being made -/
def sm_MB (pa Mp : Int → Int) (mk n : Int) : Prop := ∀ m : Int, 0 ≤ m → m < mk → Mp m = 1 → pa m < n
/-- all marks from lo on are placed -/
def sm_AP (Mp : Int → Int) (lo hi : Int) : Prop := ∀ m : Int, lo ≤ m → m < hi → Mp m = 1
theorem sm_AP_0 {Mp : Int → Int} {lo hi : Int} (h : hi ≤ lo) : sm_AP Mp lo hi := fun m h0 h1 => by omega
theorem sm_AP_s {Mp : Int → Int} {lo mid hi : Int} (h : sm_AP Mp lo mid) (k : sm_AP Mp mid hi) : sm_AP Mp lo hi := fun m h0 h1 => by
  by_cases z : m < mid
  · exact h m h0 z
  · exact k m (by omega) h1
theorem sm_AP_1 {Mp : Int → Int} {lo hi : Int} (h : Mp lo = 1) (k : sm_AP Mp (lo + 1) hi) : sm_AP Mp lo hi := fun m h0 h1 => by
  by_cases z : m = lo
  · rw [z]; exact h
  · exact k m (by omega) h1
theorem sm_AP_F {Mp Mp' : Int → Int} {lo hi m lo' hi' : Int} (h : sm_AP Mp lo hi) (f : sm_F1 Mp Mp' m) (hm : hi' ≤ m) (hl : lo ≤ lo') (hh : hi' ≤ hi) : sm_AP Mp' lo' hi' := fun k h0 h1 => by
  rw [f k (by omega)]
  exact h k (by omega) (by omega)
theorem sm_AP_up {Mp : Int → Int} {lo hi i x : Int} (h : sm_AP Mp lo hi) (hx : x = 1 ∨ i < lo ∨ hi ≤ i) : sm_AP (fun i' : Int => if i' = i then x else Mp i') lo hi := fun k h0 h1 => by
  (try dsimp only)
  by_cases z : k = i
  · rw [if_pos z]; omega
  · rw [if_neg z]; exact h k h0 h1
/-- heights within a range -/
def sm_HB (Ht : Int → Int) (lo hi B : Int) : Prop := ∀ k : Int, lo ≤ k → k < hi → 2 * Ht k ≤ B
theorem sm_HB_0 {Ht : Int → Int} {lo hi B : Int} (h : hi ≤ lo) : sm_HB Ht lo hi B := fun m h0 h1 => by omega
theorem sm_HB_s {Ht : Int → Int} {lo mid hi B : Int} (h : sm_HB Ht lo mid B) (k : sm_HB Ht mid hi B) : sm_HB Ht lo hi B := fun m h0 h1 => by
  by_cases z : m < mid
  · exact h m h0 z
  · exact k m (by omega) h1
theorem sm_HB_1 {Ht : Int → Int} {lo hi B : Int} (h : 2 * Ht lo ≤ B) (k : sm_HB Ht (lo + 1) hi B) : sm_HB Ht lo hi B := fun m h0 h1 => by
  by_cases z : m = lo
  · rw [z]; exact h
  · exact k m (by omega) h1
theorem sm_HB_F {Ht Ht' : Int → Int} {lo hi m lo' hi' B B' : Int} (h : sm_HB Ht lo hi B) (f : sm_F1 Ht Ht' m) (hm : hi' ≤ m) (hl : lo ≤ lo') (hh : hi' ≤ hi) (hB : B ≤ B') : sm_HB Ht' lo' hi' B' := fun k h0 h1 => by
  rw [f k (by omega)]
  have := h k (by omega) (by omega)
  omega
section CODER1
variable {op a b fo Ht Tr Td Ls pa Mh Mt Ml Mf Mp ar vs vm : Int → Int} {n mk f nf ns si : Int}
theorem sm_KC_si {si' : Int} (h : sm_KC op a b fo Ht Tr Td Ls pa Mh Mt Ml Mf Mp ar vs vm n mk f nf ns si) (hs : si ≤ si') : sm_KC op a b fo Ht Tr Td Ls pa Mh Mt Ml Mf Mp ar vs vm n mk f nf ns si' :=
  ⟨h.1, fun k k0 k1 => ⟨⟨(h.2.1 k k0 k1).1.1, sm_ci_si (h.2.1 k k0 k1).1.2.1 hs, (h.2.1 k k0 k1).1.2.2⟩, (h.2.1 k k0 k1).2⟩, h.2.2.1, h.2.2.2⟩
theorem sm_MB_emit (h : sm_KC op a b fo Ht Tr Td Ls pa Mh Mt Ml Mf Mp ar vs vm n mk f nf ns si) {n' : Int} (hn : n' = n + 1) : sm_MB pa Mp mk n' := fun m m0 m1 m2 => by
  have := (h.2.2.2 m m0 m1 m2).2.1
  omega
theorem sm_MB_w {n' : Int} (h : sm_MB pa Mp mk n) (hn : n ≤ n') : sm_MB pa Mp mk n' := fun m m0 m1 m2 => by
  have := h m m0 m1 m2
  omega
theorem sm_MB_mark {m5 x5 mk' : Int} (h : sm_MB pa Mp mk n) (hm : m5 = mk) (hx : x5 = 0) (hk : mk' = mk + 1) : sm_MB pa (fun i' : Int => if i' = m5 then x5 else Mp i') mk' n := fun m m0 m1 m2 => by
  dsimp only at m2
  by_cases z : m = m5
  · rw [if_pos z] at m2; omega
  · rw [if_neg z] at m2; exact h m m0 (by omega) m2
/-- a mark comes -/
theorem sm_KC_mark {m1 m2 m3 m4 m5 x1 x2 x3 x4 x5 mk' : Int} (h : sm_KC op a b fo Ht Tr Td Ls pa Mh Mt Ml Mf Mp ar vs vm n mk f nf ns si) (hm : m1 = mk ∧ m2 = mk ∧ m3 = mk ∧ m4 = mk ∧ m5 = mk) (hx : x5 = 0) (hk : mk' = mk + 1) :
    sm_KC op a b fo Ht Tr Td Ls pa (fun i' : Int => if i' = m1 then x1 else Mh i') (fun i' : Int => if i' = m2 then x2 else Mt i') (fun i' : Int => if i' = m3 then x3 else Ml i') (fun i' : Int => if i' = m4 then x4 else Mf i') (fun i' : Int => if i' = m5 then x5 else Mp i') ar vs vm n mk' f nf ns si := by
  obtain ⟨q1, q2, q3, q4, q5⟩ := hm
  subst m1 m2 m3 m4 m5 mk'
  refine ⟨by have := h.1; omega, fun k k0 k1 => ?_, h.2.2.1, fun m mm0 mm1 mm2 => ?_⟩
  · obtain ⟨⟨r1, r2, r3, r4, r5⟩, q⟩ := h.2.1 k k0 k1
    refine ⟨⟨r1, ?_, fun z => ?_, r4, r5⟩, q⟩
    · by_cases z : sm_ju (op k)
      · have w := r3 z
        (try dsimp only)
        rw [if_neg (by omega), if_neg (by omega), if_neg (by omega)]
        exact r2
      · exact sm_ci_j r2 z
    · have w := r3 z
      (try dsimp only)
      rw [if_neg (by omega)]
      exact ⟨w.1, by omega, w.2.2⟩
  · dsimp only at mm2
    by_cases z : m = mk
    · rw [if_pos z] at mm2; omega
    · rw [if_neg z] at mm2
      have w := h.2.2.2 m mm0 (by omega) mm2
      unfold sm_mp at w ⊢
      (try dsimp only)
      rw [if_neg z, if_neg z, if_neg z, if_neg z]
      exact w
/-- a mark is placed -/
theorem sm_KC_here {m i1 i2 x p : Int} (h : sm_KC op a b fo Ht Tr Td Ls pa Mh Mt Ml Mf Mp ar vs vm n mk f nf ns si) (e1 : Ht n = Mh m) (e2 : Tr n = Mt m) (e3 : Ls n = Ml m) (e4 : f = Mf m) (h1 : i1 = m) (h2 : i2 = m) (hx : x = n) :
    sm_KC op a b fo Ht Tr Td Ls (fun i' : Int => if i' = i1 then x else pa i') Mh Mt Ml Mf (fun i' : Int => if i' = i2 then p else Mp i') ar vs vm n mk f nf ns si := by
  subst i1 i2 x
  refine ⟨h.1, h.2.1, h.2.2.1, fun q q0 q1 q2 => ?_⟩
  have n0 := h.1.1
  unfold sm_mp
  dsimp only at q2 ⊢
  by_cases z : q = m
  · rw [if_pos z]
    rw [z]
    exact ⟨n0, by omega, e1, e2, e3, fun w => by omega, fun _ => e4⟩
  · rw [if_neg z] at q2 ⊢
    exact h.2.2.2 q q0 q1 q2
/-- behind a jump: what is now may be anything that was once -/
theorem sm_KC_set {k0 x1 x2 x3 x4 j1 j2 j3 j4 : Int} (h : sm_KC op a b fo Ht Tr Td Ls pa Mh Mt Ml Mf Mp ar vs vm n mk f nf ns si) (hb : sm_MB pa Mp mk n) (hn : 1 ≤ n) (hf : ¬ sm_fa (op (n - 1))) (hk : 0 ≤ k0 ∧ k0 < n) (hfo : fo k0 = f)
    (w1 : Ht k0 ≤ x1 ∧ x1 ≤ n + 2) (w2 : x2 = Tr k0) (w3 : x3 = Td k0) (w4 : x4 = Ls k0) (hj : j1 = n ∧ j2 = n ∧ j3 = n ∧ j4 = n) :
    sm_KC op a b fo (fun i' : Int => if i' = j1 then x1 else Ht i') (fun i' : Int => if i' = j2 then x2 else Tr i') (fun i' : Int => if i' = j3 then x3 else Td i') (fun i' : Int => if i' = j4 then x4 else Ls i') pa Mh Mt Ml Mf Mp ar vs vm n mk f nf ns si := by
  obtain ⟨q1, q2, q3, q4⟩ := hj
  subst j1 j2 j3 j4 x2 x3 x4
  obtain ⟨A0, A, B, C⟩ := h
  have E : ∀ (r : Int → Int) (x i : Int), i < n → (fun i' : Int => if i' = n then x else r i') i = r i := fun r x i q => if_neg (by omega)
  have En : ∀ (r : Int → Int) (x : Int), (fun i' : Int => if i' = n then x else r i') n = x := fun r x => if_pos rfl
  generalize hHt : (fun i' : Int => if i' = n then x1 else Ht i') = Ht'
  generalize hTr : (fun i' : Int => if i' = n then Tr k0 else Tr i') = Tr'
  generalize hTd : (fun i' : Int => if i' = n then Td k0 else Td i') = Td'
  generalize hLs : (fun i' : Int => if i' = n then Ls k0 else Ls i') = Ls'
  have o5 : ∀ i : Int, i < n → Ht' i = Ht i := fun i q => by rw [← hHt]; exact E Ht x1 i q
  have o6 : ∀ i : Int, i < n → Tr' i = Tr i := fun i q => by rw [← hTr]; exact E Tr _ i q
  have o7 : ∀ i : Int, i < n → Td' i = Td i := fun i q => by rw [← hTd]; exact E Td _ i q
  have o8 : ∀ i : Int, i < n → Ls' i = Ls i := fun i q => by rw [← hLs]; exact E Ls _ i q
  have p5' : Ht' n = x1 := by rw [← hHt]; exact En Ht x1
  have p6' : Tr' n = Tr k0 := by rw [← hTr]; exact En Tr _
  have p7' : Td' n = Td k0 := by rw [← hTd]; exact En Td _
  have p8' : Ls' n = Ls k0 := by rw [← hLs]; exact En Ls _
  clear hHt hTr hTd hLs E En
  refine ⟨A0, fun k k0' k1 => ?_, ?_, fun m mm0 mm1 mm2 => ?_⟩
  · obtain ⟨⟨r1, r2, r3, r4, r5⟩, qk⟩ := A k k0' k1
    have qb := qk.1
    refine ⟨⟨r1, ?_, r3, r4, r5⟩, ?_⟩
    · by_cases hk2 : k + 1 < n
      · exact sm_ci_e r2 rfl rfl rfl (o5 k k1) (o6 k k1) (o7 k k1) (o8 k k1) (by rw [o6 k k1, o5 _ (by omega)]) (by rw [o8 k k1, o5 _ (by omega)]) (by rw [o6 k k1, o6 _ (by omega)]) (by rw [o8 k k1, o8 _ (by omega)]) rfl rfl (o5 _ hk2) (o6 _ hk2) (o8 _ hk2)
      · have hk3 : k = n - 1 := by omega
        have r2' := sm_ci_x (H2 := Ht' (k + 1)) (T2 := Tr' (k + 1)) (L2 := Ls' (k + 1)) r2 (by rw [hk3]; exact hf)
        exact sm_ci_e r2' rfl rfl rfl (o5 k k1) (o6 k k1) (o7 k k1) (o8 k k1) (by rw [o6 k k1, o5 _ (by omega)]) (by rw [o8 k k1, o5 _ (by omega)]) (by rw [o6 k k1, o6 _ (by omega)]) (by rw [o8 k k1, o8 _ (by omega)]) rfl rfl rfl rfl rfl
    · exact sm_Q0_F qk k1 (fun z => by have := (A (Tr k) z (by omega)).2.1; omega) (fun _ _ => rfl) (fun _ _ => rfl) o5 o6 o7 o8
  · obtain ⟨c1, c2, c3, c4, c5⟩ := (A k0 hk.1 hk.2).2
    unfold sm_Q0
    rw [p5', p6', p7', p8']
    refine ⟨by omega, fun z => ?_, c3, fun z => ?_, fun z s s0 s1 => ?_⟩
    · rw [o7 _ (by omega)]
      have := c2 z
      exact ⟨this.1, this.2.1.trans hfo, this.2.2⟩
    · rw [o5 _ (by omega)]
      have := c4 z
      exact ⟨this.1, this.2.1.trans hfo, by omega, this.2.2.2⟩
    · rw [o5 _ (by omega)] at s1
      have := (A (Tr k0) z (by omega)).2.1
      rw [o8 (Tr k0) (by omega), sm_il_f o5 o8 (by omega), sm_il_f o5 o8 (by omega)]
      exact c5 z s s0 s1
  · have w := C m mm0 mm1 mm2
    have w2 := hb m mm0 mm1 mm2
    unfold sm_mp at w ⊢
    rw [o5 _ w2, o6 _ w2, o8 _ w2]
    exact w
end CODER1
theorem sm_KC_x {op a b fo Ht Tr Td Ls pa Mh Mt Ml Mf Mp ar vs vm : Int → Int} {n mk f nf ns si p1 p2 p3 : Int} (h : sm_KC op a b fo Ht Tr Td Ls pa Mh Mt Ml Mf Mp ar vs vm n mk f nf ns si) (hn : n < 600) (ho : 0 ≤ p1 ∧ p1 ≤ 30)
    (e : sm_ci p1 p2 p3 (Ht n) (Tr n) (Td n) (Ls n) (Ht (Tr n)) (Ht (Ls n)) (Tr (Tr n)) (Ls (Ls n)) n si nf ns (ar p2) f (Ht n + sm_dl p1 p2) (sm_nt p1 n (Tr n) (Tr (Tr n))) (sm_nl p1 n (Ht n) (Ls n) (Ht (Ls n)) (Ls (Ls n))) (Mh p2) (Mt p2) (Ml p2))
    (ej : sm_ju p1 → 0 ≤ p2 ∧ p2 < mk ∧ Mf p2 = f) (ev : p1 = 1 ∨ p1 = 2 → sm_vv ar vs vm f p2 p3) :
    0 ≤ Ht n + sm_dl p1 p2 ∧ Ht n + sm_dl p1 p2 ≤ 603 ∧ -1 ≤ sm_nt p1 n (Tr n) (Tr (Tr n)) ∧ sm_nt p1 n (Tr n) (Tr (Tr n)) ≤ 600 ∧ 0 ≤ sm_nd p1 (Td n) ∧ sm_nd p1 (Td n) ≤ 40 ∧ -1 ≤ sm_nl p1 n (Ht n) (Ls n) (Ht (Ls n)) (Ls (Ls n)) ∧ sm_nl p1 n (Ht n) (Ls n) (Ht (Ls n)) (Ls (Ls n)) ≤ 600 := by
  have q := (sm_KC_emit h hn ho e ej ev rfl rfl rfl rfl ⟨rfl, rfl, rfl, rfl⟩ ⟨rfl, rfl, rfl, rfl⟩ rfl rfl).2.2.1.1
  (try dsimp only at q)
  rw [if_pos rfl, if_pos rfl, if_pos rfl, if_pos rfl] at q
  omega
/-- the functions' variables; the functions around -/
def sm_VB (vm ar : Int → Int) (nf : Int) : Prop := ∀ f : Int, 0 ≤ f → f < nf → 0 ≤ vm f ∧ vm f ≤ 100 ∧ (1 ≤ f → 0 ≤ ar f ∧ ar f < f)
theorem sm_VB_at {vm ar : Int → Int} {nf : Int} (h : sm_VB vm ar nf) (f : Int) (h0 : 0 ≤ f) (h1 : f < nf) : 0 ≤ vm f ∧ vm f ≤ 100 ∧ (1 ≤ f → 0 ≤ ar f ∧ ar f < f) := h f h0 h1
/-- so far out: all of them are functions -/
def sm_UB (ar : Int → Int) (f n : Int) : Prop := ∀ j : Int, 0 ≤ j → j < n → 1 ≤ sm_ua ar f j
theorem sm_UB_0 {ar : Int → Int} {f n : Int} (h : n ≤ 0) : sm_UB ar f n := fun j h0 h1 => by omega
theorem sm_UB_s {ar : Int → Int} {f n n' : Int} (h : sm_UB ar f n) (h1 : 1 ≤ sm_ua ar f n) (hn : n' = n + 1) : sm_UB ar f n' := fun j j0 j1 => by
  by_cases z : j = n
  · rw [z]; exact h1
  · exact h j j0 (by omega)
theorem sm_vv_i {ar vs vm : Int → Int} {f x y i : Int} (h0 : 0 ≤ x) (h : sm_UB ar f x) (h1 : 1 ≤ sm_ua ar f x) (i0 : 0 ≤ i) (i1 : i < vm (sm_ua ar f x)) (e : vs (100 * sm_ua ar f x + i) = y) : sm_vv ar vs vm f x y := ⟨h0, fun j j0 j1 => by
  by_cases z : j = x
  · rw [z]; exact h1
  · exact h j j0 (by omega), i, i0, i1, e⟩
/-- g's variables hold the name -/
def sm_vh (vs vm : Int → Int) (g y : Int) : Prop := ∃ i : Int, 0 ≤ i ∧ i < vm g ∧ vs (100 * g + i) = y
theorem sm_vh_i {vs vm : Int → Int} {g y i : Int} (i0 : 0 ≤ i) (i1 : i < vm g) (e : vs (100 * g + i) = y) : sm_vh vs vm g y := ⟨i, i0, i1, e⟩
theorem sm_vv_h {ar vs vm : Int → Int} {f x y g : Int} (h0 : 0 ≤ x) (h : sm_UB ar f x) (hg : g = sm_ua ar f x) (h1 : 1 ≤ g) (k : sm_vh vs vm g y) : sm_vv ar vs vm f x y := by
  obtain ⟨i, i0, i1, e⟩ := k
  subst hg
  exact sm_vv_i h0 h h1 i0 i1 e

def q_emit (p1 : Int) (p2 : Int) (p3 : Int) (S : sv_S) : Option Value → sv_S → Prop := fun v S' => v = none ∧ sm_ok S' ∧ sv_mod [26, 27, 28, 29, 1046, 1047, 1100007, 1100023, 1100024, 1100025] S S' ∧ (1 ≤ (S' 1046 0) ∧ (S 1046 0) ≤ (S' 1046 0) ∧ (S' 1046 0) ≤ (S 1046 0) + 1 ∧ (S' 1046 0) ≤ 600 ∧ ((S 1047 0) = 1 → (S' 1047 0) = 1) ∧ ((S' 1047 0) = 1 → (S 1047 0) = 1 ∨ (S 1046 0) = 600) ∧ sm_F1 (S 26) (S' 26) (S 1046 0) ∧ sm_F1 (S 27) (S' 27) (S 1046 0) ∧ sm_F1 (S 28) (S' 28) (S 1046 0) ∧ sm_F1 (S 29) (S' 29) (S 1046 0) ∧ sm_F1 (S 1100007) (S' 1100007) ((S 1046 0) + 1) ∧ sm_F1 (S 1100023) (S' 1100023) ((S 1046 0) + 1) ∧ sm_F1 (S 1100024) (S' 1100024) ((S 1046 0) + 1) ∧ sm_F1 (S 1100025) (S' 1100025) ((S 1046 0) + 1) ∧ ((S' 1047 0) = 0 → (S 1047 0) = 0 ∧ (S' 1046 0) = (S 1046 0) + 1 ∧ sm_KC (S' 26) (S' 27) (S' 28) (S' 29) (S' 1100007) (S' 1100023) (S' 1100024) (S' 1100025) (S' 31) (S' 1100009) (S' 1100027) (S' 1100028) (S' 1100026) (S' 1100030) (S' 21) (S' 32) (S' 33) (S' 1046 0) (S' 1053 0) (S' 1056 0) (S' 1032 0) (S' 1007 0) (S' 1100033 0) ∧ sm_MB (S' 31) (S' 1100030) (S' 1053 0) (S' 1046 0) ∧ (S' 26 (S 1046 0)) = p1 ∧ (S' 29 (S 1046 0)) = (S' 1056 0) ∧ (S' 1100007 (S' 1046 0)) = ((S 1100007 (S 1046 0)) + sm_dl p1 (p2)) ∧ (S' 1100023 (S' 1046 0)) = (sm_nt p1 (S 1046 0) (S 1100023 (S 1046 0)) (S 1100023 (S 1100023 (S 1046 0)))) ∧ (S' 1100024 (S' 1046 0)) = (sm_nd p1 (S 1100024 (S 1046 0))) ∧ (S' 1100025 (S' 1046 0)) = (sm_nl p1 (S 1046 0) (S 1100007 (S 1046 0)) (S 1100025 (S 1046 0)) (S 1100007 (S 1100025 (S 1046 0))) (S 1100025 (S 1100025 (S 1046 0))))))
theorem la_emit_0 {x0 : Int} (h0 : x0 ≤ 600) (h1 : ¬ x0 = 600) : x0 < 600 := by omega
theorem la_emit_1 {x0 : Int} (h0 : 0 ≤ x0) (h1 : x0 < 600) : 0 ≤ x0 ∧ x0 < 600 := by omega
theorem la_emit_2 {x0 : Int} (h0 : 0 ≤ x0) (h1 : x0 < 600) : sv_R (x0 + 1) := by omega
theorem la_emit_3 {x0 : Int} (h0 : 0 ≤ x0) (h1 : x0 ≤ 30) : 0 ≤ x0 ∧ x0 ≤ 30 := by omega
theorem la_emit_4 {x0 x1 x2 : Int} (h0 : x0 = x1 + x2) (h1 : 0 ≤ x1 + x2) (h2 : x1 + x2 ≤ 603) : sv_R x0 := by omega
theorem la_emit_5 {x0 : Int} (h0 : 0 ≤ x0) (h1 : ¬ x0 = 0) : 0 < x0 := by omega
theorem la_emit_6 {x0 : Int} (h0 : x0 = 0) : sv_R x0 := by omega
theorem la_emit_7 {x0 x1 : Int} (h0 : x0 = x1) (h1 : (-1) ≤ x1) (h2 : x1 ≤ 600) : sv_R x0 := by omega
theorem la_emit_8 {x0 x1 : Int} (h0 : x0 = x1) (h1 : 0 ≤ x1) (h2 : x1 ≤ 40) : sv_R x0 := by omega
theorem la_emit_9 {x0 : Int} (h0 : 0 ≤ x0) : 1 ≤ x0 + 1 := by omega
theorem la_emit_10 {x0 : Int} : x0 ≤ x0 + 1 := by omega
theorem la_emit_11 {x0 : Int} : x0 + 1 ≤ x0 + 1 := by omega
theorem la_emit_12 {x0 : Int} (h0 : x0 < 600) : x0 + 1 ≤ 600 := by omega
theorem la_emit_13 {x0 : Int} : x0 = 1 → x0 = 1 := by omega
theorem la_emit_14 {x0 x1 : Int} (h0 : x0 < 600) : x1 = 1 → x1 = 1 ∨ x0 = 600 := by omega
theorem la_emit_15 {x0 : Int} : x0 + 1 = x0 + 1 := by omega
theorem la_emit_16 {x0 : Int} : x0 = x0 := by omega
theorem la_emit_17 {x0 x1 x2 x3 : Int} (h0 : x0 = x1) (h1 : x1 = x2 + x3) : x0 = x2 + x3 := by omega
theorem la_emit_18 {x0 x1 x2 : Int} (h0 : x0 = x1) (h1 : x1 = x2) : x0 = x2 := by omega
theorem la_emit_19 {x0 x1 x2 : Int} (h0 : x0 = x1) (h1 : x2 = x0) : x2 = x1 := by omega
theorem la_emit_20 {x0 : Int} (h0 : ¬ ¬ x0 = 600) : 1 ≤ x0 := by omega
theorem la_emit_21 {x0 : Int} : x0 ≤ x0 := by omega
theorem la_emit_22 {x0 : Int} : x0 = 1 → (1 : Int) = 1 := by omega
theorem la_emit_23 {x0 x1 : Int} (h0 : x0 ≤ 600) (h1 : ¬ ¬ x0 = 600) : (1 : Int) = 1 → x1 = 1 ∨ x0 = 600 := by omega
theorem la_emit_24 {x0 : Int} (h0 : (1 : Int) = 0) : x0 = 0 := by omega
theorem la_emit_25 {x0 : Int} (h0 : (1 : Int) = 0) : x0 = x0 + 1 := by omega
theorem la_emit_26 (h0 : (1 : Int) = 0) : False := by omega
theorem la_emit_27 {x0 x1 : Int} (h0 : (1 : Int) = 0) : x0 = x1 := by omega
theorem la_emit_28 {x0 x1 : Int} (h0 : (1 : Int) = 0) : x0 = x0 + x1 := by omega
set_option maxHeartbeats 4000000 in
theorem f_emit : ∀ (p1 : Int) (p2 : Int) (p3 : Int) (S : sv_S), sm_ok S → sv_R p1 → sv_R p2 → sv_R p3 → (0 ≤ (S 1046 0) ∧ (S 1046 0) ≤ 600 ∧ 0 ≤ (S 1047 0) ∧ ((S 1047 0) = 0 → sm_KC (S 26) (S 27) (S 28) (S 29) (S 1100007) (S 1100023) (S 1100024) (S 1100025) (S 31) (S 1100009) (S 1100027) (S 1100028) (S 1100026) (S 1100030) (S 21) (S 32) (S 33) (S 1046 0) (S 1053 0) (S 1056 0) (S 1032 0) (S 1007 0) (S 1100033 0) ∧ 0 ≤ p1 ∧ p1 ≤ 30 ∧ sm_ci p1 (p2) (p3) (S 1100007 (S 1046 0)) (S 1100023 (S 1046 0)) (S 1100024 (S 1046 0)) (S 1100025 (S 1046 0)) (S 1100007 (S 1100023 (S 1046 0))) (S 1100007 (S 1100025 (S 1046 0))) (S 1100023 (S 1100023 (S 1046 0))) (S 1100025 (S 1100025 (S 1046 0))) (S 1046 0) (S 1100033 0) (S 1032 0) (S 1007 0) (S 21 p2) (S 1056 0) ((S 1100007 (S 1046 0)) + sm_dl p1 (p2)) (sm_nt p1 (S 1046 0) (S 1100023 (S 1046 0)) (S 1100023 (S 1100023 (S 1046 0)))) (sm_nl p1 (S 1046 0) (S 1100007 (S 1046 0)) (S 1100025 (S 1046 0)) (S 1100007 (S 1100025 (S 1046 0))) (S 1100025 (S 1100025 (S 1046 0)))) (S 1100009 p2) (S 1100027 p2) (S 1100028 p2) ∧ ((21 ≤ p1 ∧ p1 ≤ 24) ∨ p1 = 27 ∨ p1 = 30 → 0 ≤ p2 ∧ p2 < (S 1053 0) ∧ (S 1100026 p2) = (S 1056 0)) ∧ (p1 = 1 ∨ p1 = 2 → sm_vv (S 21) (S 32) (S 33) (S 1056 0) p2 p3))) → (sv_R (S 1046 0) → (((¬ (S 1046 0) = (600 : Int)) → (((S 1047 0) = 0 → sm_KC (S 26) (S 27) (S 28) (S 29) (S 1100007) (S 1100023) (S 1100024) (S 1100025) (S 31) (S 1100009) (S 1100027) (S 1100028) (S 1100026) (S 1100030) (S 21) (S 32) (S 33) (S 1046 0) (S 1053 0) (S 1056 0) (S 1032 0) (S 1007 0) (S 1100033 0) → (S 1046 0) < 600 → 0 ≤ p1 ∧ p1 ≤ 30 → sm_ci p1 (p2) (p3) (S 1100007 (S 1046 0)) (S 1100023 (S 1046 0)) (S 1100024 (S 1046 0)) (S 1100025 (S 1046 0)) (S 1100007 (S 1100023 (S 1046 0))) (S 1100007 (S 1100025 (S 1046 0))) (S 1100023 (S 1100023 (S 1046 0))) (S 1100025 (S 1100025 (S 1046 0))) (S 1046 0) (S 1100033 0) (S 1032 0) (S 1007 0) (S 21 p2) (S 1056 0) ((S 1100007 (S 1046 0)) + sm_dl p1 (p2)) (sm_nt p1 (S 1046 0) (S 1100023 (S 1046 0)) (S 1100023 (S 1100023 (S 1046 0)))) (sm_nl p1 (S 1046 0) (S 1100007 (S 1046 0)) (S 1100025 (S 1046 0)) (S 1100007 (S 1100025 (S 1046 0))) (S 1100025 (S 1100025 (S 1046 0)))) (S 1100009 p2) (S 1100027 p2) (S 1100028 p2) → ((21 ≤ p1 ∧ p1 ≤ 24) ∨ p1 = 27 ∨ p1 = 30 → 0 ≤ p2 ∧ p2 < (S 1053 0) ∧ (S 1100026 p2) = (S 1056 0)) → (p1 = 1 ∨ p1 = 2 → sm_vv (S 21) (S 32) (S 33) (S 1056 0) p2 p3) → 0 ≤ ((S 1100007 (S 1046 0)) + sm_dl p1 (p2)) ∧ ((S 1100007 (S 1046 0)) + sm_dl p1 (p2)) ≤ 603 ∧ -1 ≤ (sm_nt p1 (S 1046 0) (S 1100023 (S 1046 0)) (S 1100023 (S 1100023 (S 1046 0)))) ∧ (sm_nt p1 (S 1046 0) (S 1100023 (S 1046 0)) (S 1100023 (S 1100023 (S 1046 0)))) ≤ 600 ∧ 0 ≤ (sm_nd p1 (S 1100024 (S 1046 0))) ∧ (sm_nd p1 (S 1100024 (S 1046 0))) ≤ 40 ∧ -1 ≤ (sm_nl p1 (S 1046 0) (S 1100007 (S 1046 0)) (S 1100025 (S 1046 0)) (S 1100007 (S 1100025 (S 1046 0))) (S 1100025 (S 1100025 (S 1046 0)))) ∧ (sm_nl p1 (S 1046 0) (S 1100007 (S 1046 0)) (S 1100025 (S 1046 0)) (S 1100007 (S 1100025 (S 1046 0))) (S 1100025 (S 1100025 (S 1046 0)))) ≤ 600) → (0 ≤ (S 1046 0) ∧ (S 1046 0) < 600) ∧ (sv_R (S 1056 0) → (sv_R ((S 1046 0) + (1 : Int))) ∧ (sv_R ((if (S 1047 0) = 0 then ((S 1100007 (S 1046 0)) + sm_dl p1 (p2)) else 0))) ∧ (sv_R ((if (S 1047 0) = 0 then (sm_nt p1 (S 1046 0) (S 1100023 (S 1046 0)) (S 1100023 (S 1100023 (S 1046 0)))) else 0))) ∧ (sv_R ((if (S 1047 0) = 0 then (sm_nd p1 (S 1100024 (S 1046 0))) else 0))) ∧ (sv_R ((if (S 1047 0) = 0 then (sm_nl p1 (S 1046 0) (S 1100007 (S 1046 0)) (S 1100025 (S 1046 0)) (S 1100007 (S 1100025 (S 1046 0))) (S 1100025 (S 1100025 (S 1046 0)))) else 0))) ∧ (((S 1047 0) = 0 → sm_KC (S 26) (S 27) (S 28) (S 29) (S 1100007) (S 1100023) (S 1100024) (S 1100025) (S 31) (S 1100009) (S 1100027) (S 1100028) (S 1100026) (S 1100030) (S 21) (S 32) (S 33) (S 1046 0) (S 1053 0) (S 1056 0) (S 1032 0) (S 1007 0) (S 1100033 0) → (S 1046 0) < 600 → 0 ≤ p1 ∧ p1 ≤ 30 → sm_ci p1 (p2) (p3) (S 1100007 (S 1046 0)) (S 1100023 (S 1046 0)) (S 1100024 (S 1046 0)) (S 1100025 (S 1046 0)) (S 1100007 (S 1100023 (S 1046 0))) (S 1100007 (S 1100025 (S 1046 0))) (S 1100023 (S 1100023 (S 1046 0))) (S 1100025 (S 1100025 (S 1046 0))) (S 1046 0) (S 1100033 0) (S 1032 0) (S 1007 0) (S 21 p2) (S 1056 0) ((S 1100007 (S 1046 0)) + sm_dl p1 (p2)) (sm_nt p1 (S 1046 0) (S 1100023 (S 1046 0)) (S 1100023 (S 1100023 (S 1046 0)))) (sm_nl p1 (S 1046 0) (S 1100007 (S 1046 0)) (S 1100025 (S 1046 0)) (S 1100007 (S 1100025 (S 1046 0))) (S 1100025 (S 1100025 (S 1046 0)))) (S 1100009 p2) (S 1100027 p2) (S 1100028 p2) → ((21 ≤ p1 ∧ p1 ≤ 24) ∨ p1 = 27 ∨ p1 = 30 → 0 ≤ p2 ∧ p2 < (S 1053 0) ∧ (S 1100026 p2) = (S 1056 0)) → (p1 = 1 ∨ p1 = 2 → sm_vv (S 21) (S 32) (S 33) (S 1056 0) p2 p3) → sm_KC (fun i' : Int => if i' = (S 1046 0) then p1 else (S 26) i') (fun i' : Int => if i' = (S 1046 0) then p2 else (S 27) i') (fun i' : Int => if i' = (S 1046 0) then p3 else (S 28) i') (fun i' : Int => if i' = (S 1046 0) then (S 1056 0) else (S 29) i') (fun i' : Int => if i' = ((S 1046 0) + (1 : Int)) then ((if (S 1047 0) = 0 then ((S 1100007 (S 1046 0)) + sm_dl p1 (p2)) else 0)) else (S 1100007) i') (fun i' : Int => if i' = ((S 1046 0) + (1 : Int)) then ((if (S 1047 0) = 0 then (sm_nt p1 (S 1046 0) (S 1100023 (S 1046 0)) (S 1100023 (S 1100023 (S 1046 0)))) else 0)) else (S 1100023) i') (fun i' : Int => if i' = ((S 1046 0) + (1 : Int)) then ((if (S 1047 0) = 0 then (sm_nd p1 (S 1100024 (S 1046 0))) else 0)) else (S 1100024) i') (fun i' : Int => if i' = ((S 1046 0) + (1 : Int)) then ((if (S 1047 0) = 0 then (sm_nl p1 (S 1046 0) (S 1100007 (S 1046 0)) (S 1100025 (S 1046 0)) (S 1100007 (S 1100025 (S 1046 0))) (S 1100025 (S 1100025 (S 1046 0)))) else 0)) else (S 1100025) i') (S 31) (S 1100009) (S 1100027) (S 1100028) (S 1100026) (S 1100030) (S 21) (S 32) (S 33) ((S 1046 0) + (1 : Int)) (S 1053 0) (S 1056 0) (S 1032 0) (S 1007 0) (S 1100033 0) ∧ sm_MB (S 31) (S 1100030) (S 1053 0) ((S 1046 0) + (1 : Int))) → (1 ≤ ((S 1046 0) + (1 : Int)) ∧ (S 1046 0) ≤ ((S 1046 0) + (1 : Int)) ∧ ((S 1046 0) + (1 : Int)) ≤ (S 1046 0) + 1 ∧ ((S 1046 0) + (1 : Int)) ≤ 600 ∧ ((S 1047 0) = 1 → (S 1047 0) = 1) ∧ ((S 1047 0) = 1 → (S 1047 0) = 1 ∨ (S 1046 0) = 600) ∧ sm_F1 (S 26) (fun i' : Int => if i' = (S 1046 0) then p1 else (S 26) i') (S 1046 0) ∧ sm_F1 (S 27) (fun i' : Int => if i' = (S 1046 0) then p2 else (S 27) i') (S 1046 0) ∧ sm_F1 (S 28) (fun i' : Int => if i' = (S 1046 0) then p3 else (S 28) i') (S 1046 0) ∧ sm_F1 (S 29) (fun i' : Int => if i' = (S 1046 0) then (S 1056 0) else (S 29) i') (S 1046 0) ∧ sm_F1 (S 1100007) (fun i' : Int => if i' = ((S 1046 0) + (1 : Int)) then ((if (S 1047 0) = 0 then ((S 1100007 (S 1046 0)) + sm_dl p1 (p2)) else 0)) else (S 1100007) i') ((S 1046 0) + 1) ∧ sm_F1 (S 1100023) (fun i' : Int => if i' = ((S 1046 0) + (1 : Int)) then ((if (S 1047 0) = 0 then (sm_nt p1 (S 1046 0) (S 1100023 (S 1046 0)) (S 1100023 (S 1100023 (S 1046 0)))) else 0)) else (S 1100023) i') ((S 1046 0) + 1) ∧ sm_F1 (S 1100024) (fun i' : Int => if i' = ((S 1046 0) + (1 : Int)) then ((if (S 1047 0) = 0 then (sm_nd p1 (S 1100024 (S 1046 0))) else 0)) else (S 1100024) i') ((S 1046 0) + 1) ∧ sm_F1 (S 1100025) (fun i' : Int => if i' = ((S 1046 0) + (1 : Int)) then ((if (S 1047 0) = 0 then (sm_nl p1 (S 1046 0) (S 1100007 (S 1046 0)) (S 1100025 (S 1046 0)) (S 1100007 (S 1100025 (S 1046 0))) (S 1100025 (S 1100025 (S 1046 0)))) else 0)) else (S 1100025) i') ((S 1046 0) + 1) ∧ ((S 1047 0) = 0 → (S 1047 0) = 0 ∧ ((S 1046 0) + (1 : Int)) = (S 1046 0) + 1 ∧ sm_KC (fun i' : Int => if i' = (S 1046 0) then p1 else (S 26) i') (fun i' : Int => if i' = (S 1046 0) then p2 else (S 27) i') (fun i' : Int => if i' = (S 1046 0) then p3 else (S 28) i') (fun i' : Int => if i' = (S 1046 0) then (S 1056 0) else (S 29) i') (fun i' : Int => if i' = ((S 1046 0) + (1 : Int)) then ((if (S 1047 0) = 0 then ((S 1100007 (S 1046 0)) + sm_dl p1 (p2)) else 0)) else (S 1100007) i') (fun i' : Int => if i' = ((S 1046 0) + (1 : Int)) then ((if (S 1047 0) = 0 then (sm_nt p1 (S 1046 0) (S 1100023 (S 1046 0)) (S 1100023 (S 1100023 (S 1046 0)))) else 0)) else (S 1100023) i') (fun i' : Int => if i' = ((S 1046 0) + (1 : Int)) then ((if (S 1047 0) = 0 then (sm_nd p1 (S 1100024 (S 1046 0))) else 0)) else (S 1100024) i') (fun i' : Int => if i' = ((S 1046 0) + (1 : Int)) then ((if (S 1047 0) = 0 then (sm_nl p1 (S 1046 0) (S 1100007 (S 1046 0)) (S 1100025 (S 1046 0)) (S 1100007 (S 1100025 (S 1046 0))) (S 1100025 (S 1100025 (S 1046 0)))) else 0)) else (S 1100025) i') (S 31) (S 1100009) (S 1100027) (S 1100028) (S 1100026) (S 1100030) (S 21) (S 32) (S 33) ((S 1046 0) + (1 : Int)) (S 1053 0) (S 1056 0) (S 1032 0) (S 1007 0) (S 1100033 0) ∧ sm_MB (S 31) (S 1100030) (S 1053 0) ((S 1046 0) + (1 : Int)) ∧ (if (S 1046 0) = (S 1046 0) then p1 else (S 26 (S 1046 0))) = p1 ∧ (if (S 1046 0) = (S 1046 0) then (S 1056 0) else (S 29 (S 1046 0))) = (S 1056 0) ∧ (if ((S 1046 0) + (1 : Int)) = ((S 1046 0) + (1 : Int)) then ((if (S 1047 0) = 0 then ((S 1100007 (S 1046 0)) + sm_dl p1 (p2)) else 0)) else (S 1100007 ((S 1046 0) + (1 : Int)))) = ((S 1100007 (S 1046 0)) + sm_dl p1 (p2)) ∧ (if ((S 1046 0) + (1 : Int)) = ((S 1046 0) + (1 : Int)) then ((if (S 1047 0) = 0 then (sm_nt p1 (S 1046 0) (S 1100023 (S 1046 0)) (S 1100023 (S 1100023 (S 1046 0)))) else 0)) else (S 1100023 ((S 1046 0) + (1 : Int)))) = (sm_nt p1 (S 1046 0) (S 1100023 (S 1046 0)) (S 1100023 (S 1100023 (S 1046 0)))) ∧ (if ((S 1046 0) + (1 : Int)) = ((S 1046 0) + (1 : Int)) then ((if (S 1047 0) = 0 then (sm_nd p1 (S 1100024 (S 1046 0))) else 0)) else (S 1100024 ((S 1046 0) + (1 : Int)))) = (sm_nd p1 (S 1100024 (S 1046 0))) ∧ (if ((S 1046 0) + (1 : Int)) = ((S 1046 0) + (1 : Int)) then ((if (S 1047 0) = 0 then (sm_nl p1 (S 1046 0) (S 1100007 (S 1046 0)) (S 1100025 (S 1046 0)) (S 1100007 (S 1100025 (S 1046 0))) (S 1100025 (S 1100025 (S 1046 0)))) else 0)) else (S 1100025 ((S 1046 0) + (1 : Int)))) = (sm_nl p1 (S 1046 0) (S 1100007 (S 1046 0)) (S 1100025 (S 1046 0)) (S 1100007 (S 1100025 (S 1046 0))) (S 1100025 (S 1100025 (S 1046 0)))))))))) ∧ ((¬ (¬ (S 1046 0) = (600 : Int))) → (1 ≤ (S 1046 0) ∧ (S 1046 0) ≤ (S 1046 0) ∧ (S 1046 0) ≤ (S 1046 0) + 1 ∧ (S 1046 0) ≤ 600 ∧ ((S 1047 0) = 1 → (1 : Int) = 1) ∧ ((1 : Int) = 1 → (S 1047 0) = 1 ∨ (S 1046 0) = 600) ∧ sm_F1 (S 26) (S 26) (S 1046 0) ∧ sm_F1 (S 27) (S 27) (S 1046 0) ∧ sm_F1 (S 28) (S 28) (S 1046 0) ∧ sm_F1 (S 29) (S 29) (S 1046 0) ∧ sm_F1 (S 1100007) (S 1100007) ((S 1046 0) + 1) ∧ sm_F1 (S 1100023) (S 1100023) ((S 1046 0) + 1) ∧ sm_F1 (S 1100024) (S 1100024) ((S 1046 0) + 1) ∧ sm_F1 (S 1100025) (S 1100025) ((S 1046 0) + 1) ∧ ((1 : Int) = 0 → (S 1047 0) = 0 ∧ (S 1046 0) = (S 1046 0) + 1 ∧ sm_KC (S 26) (S 27) (S 28) (S 29) (S 1100007) (S 1100023) (S 1100024) (S 1100025) (S 31) (S 1100009) (S 1100027) (S 1100028) (S 1100026) (S 1100030) (S 21) (S 32) (S 33) (S 1046 0) (S 1053 0) (S 1056 0) (S 1032 0) (S 1007 0) (S 1100033 0) ∧ sm_MB (S 31) (S 1100030) (S 1053 0) (S 1046 0) ∧ (S 26 (S 1046 0)) = p1 ∧ (S 29 (S 1046 0)) = (S 1056 0) ∧ (S 1100007 (S 1046 0)) = ((S 1100007 (S 1046 0)) + sm_dl p1 (p2)) ∧ (S 1100023 (S 1046 0)) = (sm_nt p1 (S 1046 0) (S 1100023 (S 1046 0)) (S 1100023 (S 1100023 (S 1046 0)))) ∧ (S 1100024 (S 1046 0)) = (sm_nd p1 (S 1100024 (S 1046 0))) ∧ (S 1100025 (S 1046 0)) = (sm_nl p1 (S 1046 0) (S 1100007 (S 1046 0)) (S 1100025 (S 1046 0)) (S 1100007 (S 1100025 (S 1046 0))) (S 1100025 (S 1100025 (S 1046 0))))))))) := by
  intro p1
  intro p2
  intro p3
  intro S
  intro h1_
  intro h2_
  intro h3_
  intro h4_
  rintro ⟨h5_, ⟨h6_, ⟨h7_, h8_⟩⟩⟩
  intro h9_
  refine ⟨?_, ?_⟩
  · skip
    intro h10_
    intro h11_
    refine ⟨(la_emit_1 h5_ (la_emit_0 h6_ h10_)), ?_⟩
    intro h12_
    refine ⟨(la_emit_2 h5_ (la_emit_0 h6_ h10_)), ?_⟩
    refine ⟨?_, ?_⟩
    · skip
      by_cases c13_ : S 1047 0 = 0
      · skip
        have e14_ : (if S 1047 0 = 0 then S 1100007 (S 1046 0) + sm_dl p1 p2 else 0 : Int) = S 1100007 (S 1046 0) + sm_dl p1 p2 := if_pos c13_
        obtain ⟨h15_, ⟨h16_, ⟨h17_, ⟨h18_, ⟨h19_, h20_⟩⟩⟩⟩⟩ := (h8_ c13_)
        have h21_ := (h11_ c13_)
        have h22_ := (h21_ h15_)
        have h23_ := (h22_ (la_emit_0 h6_ h10_))
        have h24_ := (h23_ (la_emit_3 h16_ h17_))
        have h25_ := (h24_ h18_)
        have h26_ := (h25_ h19_)
        obtain ⟨h27_, ⟨h28_, ⟨h29_, ⟨h30_, ⟨h31_, ⟨h32_, ⟨h33_, h34_⟩⟩⟩⟩⟩⟩⟩ := (h26_ h20_)
        exact (la_emit_4 e14_ h27_ h28_)
      · skip
        have e35_ : (if S 1047 0 = 0 then S 1100007 (S 1046 0) + sm_dl p1 p2 else 0 : Int) = 0 := if_neg c13_
        exact (la_emit_6 e35_)
    refine ⟨?_, ?_⟩
    · skip
      by_cases c36_ : S 1047 0 = 0
      · skip
        have e37_ : (if S 1047 0 = 0 then sm_nt p1 (S 1046 0) (S 1100023 (S 1046 0)) (S 1100023 (S 1100023 (S 1046 0))) else 0 : Int) = sm_nt p1 (S 1046 0) (S 1100023 (S 1046 0)) (S 1100023 (S 1100023 (S 1046 0))) := if_pos c36_
        obtain ⟨h38_, ⟨h39_, ⟨h40_, ⟨h41_, ⟨h42_, h43_⟩⟩⟩⟩⟩ := (h8_ c36_)
        have h44_ := (h11_ c36_)
        have h45_ := (h44_ h38_)
        have h46_ := (h45_ (la_emit_0 h6_ h10_))
        have h47_ := (h46_ (la_emit_3 h39_ h40_))
        have h48_ := (h47_ h41_)
        have h49_ := (h48_ h42_)
        obtain ⟨h50_, ⟨h51_, ⟨h52_, ⟨h53_, ⟨h54_, ⟨h55_, ⟨h56_, h57_⟩⟩⟩⟩⟩⟩⟩ := (h49_ h43_)
        exact (la_emit_7 e37_ h52_ h53_)
      · skip
        have e58_ : (if S 1047 0 = 0 then sm_nt p1 (S 1046 0) (S 1100023 (S 1046 0)) (S 1100023 (S 1100023 (S 1046 0))) else 0 : Int) = 0 := if_neg c36_
        exact (la_emit_6 e58_)
    refine ⟨?_, ?_⟩
    · skip
      by_cases c59_ : S 1047 0 = 0
      · skip
        have e60_ : (if S 1047 0 = 0 then sm_nd p1 (S 1100024 (S 1046 0)) else 0 : Int) = sm_nd p1 (S 1100024 (S 1046 0)) := if_pos c59_
        obtain ⟨h61_, ⟨h62_, ⟨h63_, ⟨h64_, ⟨h65_, h66_⟩⟩⟩⟩⟩ := (h8_ c59_)
        have h67_ := (h11_ c59_)
        have h68_ := (h67_ h61_)
        have h69_ := (h68_ (la_emit_0 h6_ h10_))
        have h70_ := (h69_ (la_emit_3 h62_ h63_))
        have h71_ := (h70_ h64_)
        have h72_ := (h71_ h65_)
        obtain ⟨h73_, ⟨h74_, ⟨h75_, ⟨h76_, ⟨h77_, ⟨h78_, ⟨h79_, h80_⟩⟩⟩⟩⟩⟩⟩ := (h72_ h66_)
        exact (la_emit_8 e60_ h77_ h78_)
      · skip
        have e81_ : (if S 1047 0 = 0 then sm_nd p1 (S 1100024 (S 1046 0)) else 0 : Int) = 0 := if_neg c59_
        exact (la_emit_6 e81_)
    refine ⟨?_, ?_⟩
    · skip
      by_cases c82_ : S 1047 0 = 0
      · skip
        have e83_ : (if S 1047 0 = 0 then sm_nl p1 (S 1046 0) (S 1100007 (S 1046 0)) (S 1100025 (S 1046 0)) (S 1100007 (S 1100025 (S 1046 0))) (S 1100025 (S 1100025 (S 1046 0))) else 0 : Int) = sm_nl p1 (S 1046 0) (S 1100007 (S 1046 0)) (S 1100025 (S 1046 0)) (S 1100007 (S 1100025 (S 1046 0))) (S 1100025 (S 1100025 (S 1046 0))) := if_pos c82_
        obtain ⟨h84_, ⟨h85_, ⟨h86_, ⟨h87_, ⟨h88_, h89_⟩⟩⟩⟩⟩ := (h8_ c82_)
        have h90_ := (h11_ c82_)
        have h91_ := (h90_ h84_)
        have h92_ := (h91_ (la_emit_0 h6_ h10_))
        have h93_ := (h92_ (la_emit_3 h85_ h86_))
        have h94_ := (h93_ h87_)
        have h95_ := (h94_ h88_)
        obtain ⟨h96_, ⟨h97_, ⟨h98_, ⟨h99_, ⟨h100_, ⟨h101_, ⟨h102_, h103_⟩⟩⟩⟩⟩⟩⟩ := (h95_ h89_)
        exact (la_emit_7 e83_ h102_ h103_)
      · skip
        have e104_ : (if S 1047 0 = 0 then sm_nl p1 (S 1046 0) (S 1100007 (S 1046 0)) (S 1100025 (S 1046 0)) (S 1100007 (S 1100025 (S 1046 0))) (S 1100025 (S 1100025 (S 1046 0))) else 0 : Int) = 0 := if_neg c82_
        exact (la_emit_6 e104_)
    intro h105_
    refine ⟨(la_emit_9 h5_), ?_⟩
    refine ⟨la_emit_10, ?_⟩
    refine ⟨la_emit_11, ?_⟩
    refine ⟨(la_emit_12 (la_emit_0 h6_ h10_)), ?_⟩
    refine ⟨la_emit_13, ?_⟩
    refine ⟨(la_emit_14 (la_emit_0 h6_ h10_)), ?_⟩
    refine ⟨(sm_F1_up sm_F1_rf (Int.le_refl _)), ?_⟩
    refine ⟨(sm_F1_up sm_F1_rf (Int.le_refl _)), ?_⟩
    refine ⟨(sm_F1_up sm_F1_rf (Int.le_refl _)), ?_⟩
    refine ⟨(sm_F1_up sm_F1_rf (Int.le_refl _)), ?_⟩
    refine ⟨(sm_F1_up sm_F1_rf (Int.le_refl _)), ?_⟩
    refine ⟨(sm_F1_up sm_F1_rf (Int.le_refl _)), ?_⟩
    refine ⟨(sm_F1_up sm_F1_rf (Int.le_refl _)), ?_⟩
    refine ⟨(sm_F1_up sm_F1_rf (Int.le_refl _)), ?_⟩
    intro h106_
    obtain ⟨h107_, ⟨h108_, ⟨h109_, ⟨h110_, ⟨h111_, h112_⟩⟩⟩⟩⟩ := (h8_ h106_)
    have h113_ := (h11_ h106_)
    have h114_ := (h105_ h106_)
    have h115_ := (h113_ h107_)
    have h116_ := (h114_ h107_)
    have h117_ := (h115_ (la_emit_0 h6_ h10_))
    have h118_ := (h116_ (la_emit_0 h6_ h10_))
    have h119_ := (h117_ (la_emit_3 h108_ h109_))
    have h120_ := (h118_ (la_emit_3 h108_ h109_))
    have h121_ := (h119_ h110_)
    have h122_ := (h120_ h110_)
    have h123_ := (h121_ h111_)
    have h124_ := (h122_ h111_)
    obtain ⟨h125_, ⟨h126_, ⟨h127_, ⟨h128_, ⟨h129_, ⟨h130_, ⟨h131_, h132_⟩⟩⟩⟩⟩⟩⟩ := (h123_ h112_)
    obtain ⟨h133_, h134_⟩ := (h124_ h112_)
    refine ⟨h106_, ?_⟩
    refine ⟨la_emit_15, ?_⟩
    refine ⟨h133_, ?_⟩
    refine ⟨h134_, ?_⟩
    refine ⟨?_, ?_⟩
    · skip
      have e135_ : (if S 1046 0 = S 1046 0 then p1 else S 26 (S 1046 0) : Int) = p1 := if_pos la_emit_16
      exact e135_
    refine ⟨?_, ?_⟩
    · skip
      have e136_ : (if S 1046 0 = S 1046 0 then S 1056 0 else S 29 (S 1046 0) : Int) = S 1056 0 := if_pos la_emit_16
      exact e136_
    refine ⟨?_, ?_⟩
    · skip
      have e137_ : (if S 1046 0 + 1 = S 1046 0 + 1 then (if S 1047 0 = 0 then S 1100007 (S 1046 0) + sm_dl p1 p2 else 0) else S 1100007 (S 1046 0 + 1) : Int) = (if S 1047 0 = 0 then S 1100007 (S 1046 0) + sm_dl p1 p2 else 0) := if_pos la_emit_15
      have e138_ : (if S 1047 0 = 0 then S 1100007 (S 1046 0) + sm_dl p1 p2 else 0 : Int) = S 1100007 (S 1046 0) + sm_dl p1 p2 := if_pos h106_
      exact (la_emit_17 e137_ e138_)
    refine ⟨?_, ?_⟩
    · skip
      have e139_ : (if S 1046 0 + 1 = S 1046 0 + 1 then (if S 1047 0 = 0 then sm_nt p1 (S 1046 0) (S 1100023 (S 1046 0)) (S 1100023 (S 1100023 (S 1046 0))) else 0) else S 1100023 (S 1046 0 + 1) : Int) = (if S 1047 0 = 0 then sm_nt p1 (S 1046 0) (S 1100023 (S 1046 0)) (S 1100023 (S 1100023 (S 1046 0))) else 0) := if_pos la_emit_15
      have e140_ : (if S 1047 0 = 0 then sm_nt p1 (S 1046 0) (S 1100023 (S 1046 0)) (S 1100023 (S 1100023 (S 1046 0))) else 0 : Int) = sm_nt p1 (S 1046 0) (S 1100023 (S 1046 0)) (S 1100023 (S 1100023 (S 1046 0))) := if_pos h106_
      exact (la_emit_18 e139_ e140_)
    refine ⟨?_, ?_⟩
    · skip
      have e141_ : (if S 1047 0 = 0 then sm_nd p1 (S 1100024 (S 1046 0)) else 0 : Int) = sm_nd p1 (S 1100024 (S 1046 0)) := if_pos h106_
      have e142_ : (if S 1046 0 + 1 = S 1046 0 + 1 then (if S 1047 0 = 0 then sm_nd p1 (S 1100024 (S 1046 0)) else 0) else S 1100024 (S 1046 0 + 1) : Int) = (if S 1047 0 = 0 then sm_nd p1 (S 1100024 (S 1046 0)) else 0) := if_pos la_emit_15
      exact (la_emit_19 e141_ e142_)
    have e143_ : (if S 1046 0 + 1 = S 1046 0 + 1 then (if S 1047 0 = 0 then sm_nl p1 (S 1046 0) (S 1100007 (S 1046 0)) (S 1100025 (S 1046 0)) (S 1100007 (S 1100025 (S 1046 0))) (S 1100025 (S 1100025 (S 1046 0))) else 0) else S 1100025 (S 1046 0 + 1) : Int) = (if S 1047 0 = 0 then sm_nl p1 (S 1046 0) (S 1100007 (S 1046 0)) (S 1100025 (S 1046 0)) (S 1100007 (S 1100025 (S 1046 0))) (S 1100025 (S 1100025 (S 1046 0))) else 0) := if_pos la_emit_15
    have e144_ : (if S 1047 0 = 0 then sm_nl p1 (S 1046 0) (S 1100007 (S 1046 0)) (S 1100025 (S 1046 0)) (S 1100007 (S 1100025 (S 1046 0))) (S 1100025 (S 1100025 (S 1046 0))) else 0 : Int) = sm_nl p1 (S 1046 0) (S 1100007 (S 1046 0)) (S 1100025 (S 1046 0)) (S 1100007 (S 1100025 (S 1046 0))) (S 1100025 (S 1100025 (S 1046 0))) := if_pos h106_
    exact (la_emit_18 e143_ e144_)
  intro h145_
  refine ⟨(la_emit_20 h145_), ?_⟩
  refine ⟨la_emit_21, ?_⟩
  refine ⟨la_emit_10, ?_⟩
  refine ⟨h6_, ?_⟩
  refine ⟨la_emit_22, ?_⟩
  refine ⟨(la_emit_23 h6_ h145_), ?_⟩
  refine ⟨sm_F1_rf, ?_⟩
  refine ⟨sm_F1_rf, ?_⟩
  refine ⟨sm_F1_rf, ?_⟩
  refine ⟨sm_F1_rf, ?_⟩
  refine ⟨sm_F1_rf, ?_⟩
  refine ⟨sm_F1_rf, ?_⟩
  refine ⟨sm_F1_rf, ?_⟩
  refine ⟨sm_F1_rf, ?_⟩
  intro h146_
  refine ⟨(la_emit_24 h146_), ?_⟩
  refine ⟨(la_emit_25 h146_), ?_⟩
  refine ⟨?_, ?_⟩
  · skip
    obtain ⟨h147_, ⟨h148_, ⟨h149_, ⟨h150_, ⟨h151_, h152_⟩⟩⟩⟩⟩ := (h8_ (la_emit_24 h146_))
    exact h147_
  refine ⟨?_, ?_⟩
  · skip
    exact ((la_emit_26 h146_)).elim
  refine ⟨(la_emit_27 h146_), ?_⟩
  refine ⟨(la_emit_27 h146_), ?_⟩
  refine ⟨(la_emit_28 h146_), ?_⟩
  refine ⟨(la_emit_27 h146_), ?_⟩
  refine ⟨(la_emit_27 h146_), ?_⟩
  exact (la_emit_27 h146_)
set_option maxRecDepth 8000 in
set_option maxHeartbeats 2000000 in
theorem t_emit : ∀ (p1 : Int) (p2 : Int) (p3 : Int) (S : sv_S), sm_ok S → sv_R p1 → sv_R p2 → sv_R p3 → (0 ≤ (S 1046 0) ∧ (S 1046 0) ≤ 600 ∧ 0 ≤ (S 1047 0) ∧ ((S 1047 0) = 0 → sm_KC (S 26) (S 27) (S 28) (S 29) (S 1100007) (S 1100023) (S 1100024) (S 1100025) (S 31) (S 1100009) (S 1100027) (S 1100028) (S 1100026) (S 1100030) (S 21) (S 32) (S 33) (S 1046 0) (S 1053 0) (S 1056 0) (S 1032 0) (S 1007 0) (S 1100033 0) ∧ 0 ≤ p1 ∧ p1 ≤ 30 ∧ sm_ci p1 (p2) (p3) (S 1100007 (S 1046 0)) (S 1100023 (S 1046 0)) (S 1100024 (S 1046 0)) (S 1100025 (S 1046 0)) (S 1100007 (S 1100023 (S 1046 0))) (S 1100007 (S 1100025 (S 1046 0))) (S 1100023 (S 1100023 (S 1046 0))) (S 1100025 (S 1100025 (S 1046 0))) (S 1046 0) (S 1100033 0) (S 1032 0) (S 1007 0) (S 21 p2) (S 1056 0) ((S 1100007 (S 1046 0)) + sm_dl p1 (p2)) (sm_nt p1 (S 1046 0) (S 1100023 (S 1046 0)) (S 1100023 (S 1100023 (S 1046 0)))) (sm_nl p1 (S 1046 0) (S 1100007 (S 1046 0)) (S 1100025 (S 1046 0)) (S 1100007 (S 1100025 (S 1046 0))) (S 1100025 (S 1100025 (S 1046 0)))) (S 1100009 p2) (S 1100027 p2) (S 1100028 p2) ∧ ((21 ≤ p1 ∧ p1 ≤ 24) ∨ p1 = 27 ∨ p1 = 30 → 0 ≤ p2 ∧ p2 < (S 1053 0) ∧ (S 1100026 p2) = (S 1056 0)) ∧ (p1 = 1 ∨ p1 = 2 → sm_vv (S 21) (S 32) (S 33) (S 1056 0) p2 p3))) → sv_T sm_XS sm_cs sm_L sm_sh 0 (q_emit p1 p2 p3 S) 82 0 (lv_args 0 [.ref 0, sv_I p1, sv_I p2, sv_I p3]) [] S := by
  intro p1 p2 p3 S hok hp1 hp2 hp3 hpre
  have h := f_emit p1 p2 p3 S hok hp1 hp2 hp3 hpre
  have hM := sm_h82
  show sv_T sm_XS sm_cs sm_L sm_sh 0 (q_emit p1 p2 p3 S) 82 0 [(0, .ref 0), (1, sv_I p1), (2, sv_I p2), (3, sv_I p3)] [] S
  refine sv_aload_n hM dX12_emit_0 rfl rfl ?_
  have k1 : sv_R (S 1046 0) := sm_okI hok sm_r1046 0
  have h := h k1
  refine sv_getI hM dX12_emit_1 sm_fl_606 (sm_a0 _) sm_k46 rfl (x := (S 1046 0)) rfl ?_
  refine sv_sipush (d := (600 : Int)) hM dX12_emit_4 rfl rfl ?_
  refine sv_icmp_ne hM dX12_emit_7 k1 (⟨by decide, by decide⟩ : sv_R (600 : Int)) (t := 16) rfl rfl (fun hc => ?_) (fun hc => ?_)
  · have h := h.1 (hc)
    have k2 : ((S 1047 0) = 0 → sm_KC (S 26) (S 27) (S 28) (S 29) (S 1100007) (S 1100023) (S 1100024) (S 1100025) (S 31) (S 1100009) (S 1100027) (S 1100028) (S 1100026) (S 1100030) (S 21) (S 32) (S 33) (S 1046 0) (S 1053 0) (S 1056 0) (S 1032 0) (S 1007 0) (S 1100033 0) → (S 1046 0) < 600 → 0 ≤ p1 ∧ p1 ≤ 30 → sm_ci p1 (p2) (p3) (S 1100007 (S 1046 0)) (S 1100023 (S 1046 0)) (S 1100024 (S 1046 0)) (S 1100025 (S 1046 0)) (S 1100007 (S 1100023 (S 1046 0))) (S 1100007 (S 1100025 (S 1046 0))) (S 1100023 (S 1100023 (S 1046 0))) (S 1100025 (S 1100025 (S 1046 0))) (S 1046 0) (S 1100033 0) (S 1032 0) (S 1007 0) (S 21 p2) (S 1056 0) ((S 1100007 (S 1046 0)) + sm_dl p1 (p2)) (sm_nt p1 (S 1046 0) (S 1100023 (S 1046 0)) (S 1100023 (S 1100023 (S 1046 0)))) (sm_nl p1 (S 1046 0) (S 1100007 (S 1046 0)) (S 1100025 (S 1046 0)) (S 1100007 (S 1100025 (S 1046 0))) (S 1100025 (S 1100025 (S 1046 0)))) (S 1100009 p2) (S 1100027 p2) (S 1100028 p2) → ((21 ≤ p1 ∧ p1 ≤ 24) ∨ p1 = 27 ∨ p1 = 30 → 0 ≤ p2 ∧ p2 < (S 1053 0) ∧ (S 1100026 p2) = (S 1056 0)) → (p1 = 1 ∨ p1 = 2 → sm_vv (S 21) (S 32) (S 33) (S 1056 0) p2 p3) → 0 ≤ ((S 1100007 (S 1046 0)) + sm_dl p1 (p2)) ∧ ((S 1100007 (S 1046 0)) + sm_dl p1 (p2)) ≤ 603 ∧ -1 ≤ (sm_nt p1 (S 1046 0) (S 1100023 (S 1046 0)) (S 1100023 (S 1100023 (S 1046 0)))) ∧ (sm_nt p1 (S 1046 0) (S 1100023 (S 1046 0)) (S 1100023 (S 1100023 (S 1046 0)))) ≤ 600 ∧ 0 ≤ (sm_nd p1 (S 1100024 (S 1046 0))) ∧ (sm_nd p1 (S 1100024 (S 1046 0))) ≤ 40 ∧ -1 ≤ (sm_nl p1 (S 1046 0) (S 1100007 (S 1046 0)) (S 1100025 (S 1046 0)) (S 1100007 (S 1100025 (S 1046 0))) (S 1100025 (S 1100025 (S 1046 0)))) ∧ (sm_nl p1 (S 1046 0) (S 1100007 (S 1046 0)) (S 1100025 (S 1046 0)) (S 1100007 (S 1100025 (S 1046 0))) (S 1100025 (S 1100025 (S 1046 0)))) ≤ 600) := fun _ h hn ho e ej ev => sm_KC_x h hn ho e ej ev
    have h := h k2
    refine sv_aload_n hM dX12_emit_16 rfl rfl ?_
    refine sv_getA hM dX12_emit_17 sm_fl_89 (sm_a0 _) sm_k48 rfl ?_
    refine sv_aload_n hM dX12_emit_20 rfl rfl ?_
    refine sv_getI hM dX12_emit_21 sm_fl_606 (sm_a0 _) sm_k46 rfl (x := (S 1046 0)) rfl ?_
    refine sv_iload_n hM dX12_emit_24 rfl rfl ?_
    obtain ⟨o3, h⟩ := h
    refine sv_iast sm_X hM dX12_emit_25 (sm_a26 _) (by decide) o3.1 o3.2 rfl ?_
    have ok4 : sm_ok (sv_up S 26 (S 1046 0) p1) := sm_upI hok sm_r26 hp1
    have md5 : sv_mod [26, 27, 28, 29, 1046, 1047, 1100007, 1100023, 1100024, 1100025] S (sv_up S 26 (S 1046 0) p1) := sv_mod.up sv_mod.rf (by decide)
    refine sv_aload_n hM dX12_emit_26 rfl rfl ?_
    refine sv_getA hM dX12_emit_27 sm_fl_92 (sm_a0 _) sm_k49 rfl ?_
    refine sv_aload_n hM dX12_emit_30 rfl rfl ?_
    refine sv_getI hM dX12_emit_31 sm_fl_606 (sm_a0 _) sm_k46 rfl (x := (S 1046 0)) rfl ?_
    refine sv_iload_n hM dX12_emit_34 rfl rfl ?_
    refine sv_iast sm_X hM dX12_emit_35 (sm_a27 _) (by decide) o3.1 o3.2 rfl ?_
    have ok6 : sm_ok (sv_up (sv_up S 26 (S 1046 0) p1) 27 (S 1046 0) p2) := sm_upI ok4 sm_r27 hp2
    have md7 : sv_mod [26, 27, 28, 29, 1046, 1047, 1100007, 1100023, 1100024, 1100025] S (sv_up (sv_up S 26 (S 1046 0) p1) 27 (S 1046 0) p2) := sv_mod.up md5 (by decide)
    refine sv_aload_n hM dX12_emit_36 rfl rfl ?_
    refine sv_getA hM dX12_emit_37 sm_fl_95 (sm_a0 _) sm_k50 rfl ?_
    refine sv_aload_n hM dX12_emit_40 rfl rfl ?_
    refine sv_getI hM dX12_emit_41 sm_fl_606 (sm_a0 _) sm_k46 rfl (x := (S 1046 0)) rfl ?_
    refine sv_iload_n hM dX12_emit_44 rfl rfl ?_
    refine sv_iast sm_X hM dX12_emit_45 (sm_a28 _) (by decide) o3.1 o3.2 rfl ?_
    have ok8 : sm_ok (sv_up (sv_up (sv_up S 26 (S 1046 0) p1) 27 (S 1046 0) p2) 28 (S 1046 0) p3) := sm_upI ok6 sm_r28 hp3
    have md9 : sv_mod [26, 27, 28, 29, 1046, 1047, 1100007, 1100023, 1100024, 1100025] S (sv_up (sv_up (sv_up S 26 (S 1046 0) p1) 27 (S 1046 0) p2) 28 (S 1046 0) p3) := sv_mod.up md7 (by decide)
    refine sv_aload_n hM dX12_emit_46 rfl rfl ?_
    refine sv_getA hM dX12_emit_47 sm_fl_98 (sm_a0 _) sm_k51 rfl ?_
    refine sv_aload_n hM dX12_emit_50 rfl rfl ?_
    refine sv_getI hM dX12_emit_51 sm_fl_606 (sm_a0 _) sm_k46 rfl (x := (S 1046 0)) rfl ?_
    refine sv_aload_n hM dX12_emit_54 rfl rfl ?_
    have k10 : sv_R (S 1056 0) := sm_okI ok8 sm_r1056 0
    have h := h k10
    refine sv_getI hM dX12_emit_55 sm_fl_612 (sm_a0 _) sm_k56 rfl (x := (S 1056 0)) rfl ?_
    refine sv_iast sm_X hM dX12_emit_58 (sm_a29 _) (by decide) o3.1 o3.2 rfl ?_
    have ok11 : sm_ok (sv_up (sv_up (sv_up (sv_up S 26 (S 1046 0) p1) 27 (S 1046 0) p2) 28 (S 1046 0) p3) 29 (S 1046 0) (S 1056 0)) := sm_upI ok8 sm_r29 k10
    have md12 : sv_mod [26, 27, 28, 29, 1046, 1047, 1100007, 1100023, 1100024, 1100025] S (sv_up (sv_up (sv_up (sv_up S 26 (S 1046 0) p1) 27 (S 1046 0) p2) 28 (S 1046 0) p3) 29 (S 1046 0) (S 1056 0)) := sv_mod.up md9 (by decide)
    refine sv_aload_n hM dX12_emit_59 rfl rfl ?_
    refine sv_dupA hM dX12_emit_60 rfl ?_
    refine sv_getI hM dX12_emit_61 sm_fl_606 (sm_a0 _) sm_k46 rfl (x := (S 1046 0)) rfl ?_
    refine sv_iconst (d := (1 : Int)) hM dX12_emit_64 rfl rfl ?_
    refine sv_iadd hM dX12_emit_65 rfl ?_
    obtain ⟨o13, h⟩ := h
    refine sv_putI sm_X hM dX12_emit_66 sm_fp_606 (sm_a0 _) sm_q46 (Or.inl rfl) rfl rfl rfl rfl ?_
    have ok14 : sm_ok (sv_up (sv_up (sv_up (sv_up (sv_up S 26 (S 1046 0) p1) 27 (S 1046 0) p2) 28 (S 1046 0) p3) 29 (S 1046 0) (S 1056 0)) 1046 0 ((S 1046 0) + (1 : Int))) := sm_upI ok11 sm_r1046 o13
    have md15 : sv_mod [26, 27, 28, 29, 1046, 1047, 1100007, 1100023, 1100024, 1100025] S (sv_up (sv_up (sv_up (sv_up (sv_up S 26 (S 1046 0) p1) 27 (S 1046 0) p2) 28 (S 1046 0) p3) 29 (S 1046 0) (S 1056 0)) 1046 0 ((S 1046 0) + (1 : Int))) := sv_mod.up md12 (by decide)
    obtain ⟨o16, h⟩ := h
    refine sv_ghost sm_X 1100007 ((S 1046 0) + (1 : Int)) ((if (S 1047 0) = 0 then ((S 1100007 (S 1046 0)) + sm_dl p1 (p2)) else 0)) (by decide) ?_
    have ok17 : sm_ok (sv_up (sv_up (sv_up (sv_up (sv_up (sv_up S 26 (S 1046 0) p1) 27 (S 1046 0) p2) 28 (S 1046 0) p3) 29 (S 1046 0) (S 1056 0)) 1046 0 ((S 1046 0) + (1 : Int))) 1100007 ((S 1046 0) + (1 : Int)) ((if (S 1047 0) = 0 then ((S 1100007 (S 1046 0)) + sm_dl p1 (p2)) else 0))) := sm_upI ok14 sm_r1100007 o16
    have md18 : sv_mod [26, 27, 28, 29, 1046, 1047, 1100007, 1100023, 1100024, 1100025] S (sv_up (sv_up (sv_up (sv_up (sv_up (sv_up S 26 (S 1046 0) p1) 27 (S 1046 0) p2) 28 (S 1046 0) p3) 29 (S 1046 0) (S 1056 0)) 1046 0 ((S 1046 0) + (1 : Int))) 1100007 ((S 1046 0) + (1 : Int)) ((if (S 1047 0) = 0 then ((S 1100007 (S 1046 0)) + sm_dl p1 (p2)) else 0))) := sv_mod.up md15 (by decide)
    obtain ⟨o19, h⟩ := h
    refine sv_ghost sm_X 1100023 ((S 1046 0) + (1 : Int)) ((if (S 1047 0) = 0 then (sm_nt p1 (S 1046 0) (S 1100023 (S 1046 0)) (S 1100023 (S 1100023 (S 1046 0)))) else 0)) (by decide) ?_
    have ok20 : sm_ok (sv_up (sv_up (sv_up (sv_up (sv_up (sv_up (sv_up S 26 (S 1046 0) p1) 27 (S 1046 0) p2) 28 (S 1046 0) p3) 29 (S 1046 0) (S 1056 0)) 1046 0 ((S 1046 0) + (1 : Int))) 1100007 ((S 1046 0) + (1 : Int)) ((if (S 1047 0) = 0 then ((S 1100007 (S 1046 0)) + sm_dl p1 (p2)) else 0))) 1100023 ((S 1046 0) + (1 : Int)) ((if (S 1047 0) = 0 then (sm_nt p1 (S 1046 0) (S 1100023 (S 1046 0)) (S 1100023 (S 1100023 (S 1046 0)))) else 0))) := sm_upI ok17 sm_r1100023 o19
    have md21 : sv_mod [26, 27, 28, 29, 1046, 1047, 1100007, 1100023, 1100024, 1100025] S (sv_up (sv_up (sv_up (sv_up (sv_up (sv_up (sv_up S 26 (S 1046 0) p1) 27 (S 1046 0) p2) 28 (S 1046 0) p3) 29 (S 1046 0) (S 1056 0)) 1046 0 ((S 1046 0) + (1 : Int))) 1100007 ((S 1046 0) + (1 : Int)) ((if (S 1047 0) = 0 then ((S 1100007 (S 1046 0)) + sm_dl p1 (p2)) else 0))) 1100023 ((S 1046 0) + (1 : Int)) ((if (S 1047 0) = 0 then (sm_nt p1 (S 1046 0) (S 1100023 (S 1046 0)) (S 1100023 (S 1100023 (S 1046 0)))) else 0))) := sv_mod.up md18 (by decide)
    obtain ⟨o22, h⟩ := h
    refine sv_ghost sm_X 1100024 ((S 1046 0) + (1 : Int)) ((if (S 1047 0) = 0 then (sm_nd p1 (S 1100024 (S 1046 0))) else 0)) (by decide) ?_
    have ok23 : sm_ok (sv_up (sv_up (sv_up (sv_up (sv_up (sv_up (sv_up (sv_up S 26 (S 1046 0) p1) 27 (S 1046 0) p2) 28 (S 1046 0) p3) 29 (S 1046 0) (S 1056 0)) 1046 0 ((S 1046 0) + (1 : Int))) 1100007 ((S 1046 0) + (1 : Int)) ((if (S 1047 0) = 0 then ((S 1100007 (S 1046 0)) + sm_dl p1 (p2)) else 0))) 1100023 ((S 1046 0) + (1 : Int)) ((if (S 1047 0) = 0 then (sm_nt p1 (S 1046 0) (S 1100023 (S 1046 0)) (S 1100023 (S 1100023 (S 1046 0)))) else 0))) 1100024 ((S 1046 0) + (1 : Int)) ((if (S 1047 0) = 0 then (sm_nd p1 (S 1100024 (S 1046 0))) else 0))) := sm_upI ok20 sm_r1100024 o22
    have md24 : sv_mod [26, 27, 28, 29, 1046, 1047, 1100007, 1100023, 1100024, 1100025] S (sv_up (sv_up (sv_up (sv_up (sv_up (sv_up (sv_up (sv_up S 26 (S 1046 0) p1) 27 (S 1046 0) p2) 28 (S 1046 0) p3) 29 (S 1046 0) (S 1056 0)) 1046 0 ((S 1046 0) + (1 : Int))) 1100007 ((S 1046 0) + (1 : Int)) ((if (S 1047 0) = 0 then ((S 1100007 (S 1046 0)) + sm_dl p1 (p2)) else 0))) 1100023 ((S 1046 0) + (1 : Int)) ((if (S 1047 0) = 0 then (sm_nt p1 (S 1046 0) (S 1100023 (S 1046 0)) (S 1100023 (S 1100023 (S 1046 0)))) else 0))) 1100024 ((S 1046 0) + (1 : Int)) ((if (S 1047 0) = 0 then (sm_nd p1 (S 1100024 (S 1046 0))) else 0))) := sv_mod.up md21 (by decide)
    obtain ⟨o25, h⟩ := h
    refine sv_ghost sm_X 1100025 ((S 1046 0) + (1 : Int)) ((if (S 1047 0) = 0 then (sm_nl p1 (S 1046 0) (S 1100007 (S 1046 0)) (S 1100025 (S 1046 0)) (S 1100007 (S 1100025 (S 1046 0))) (S 1100025 (S 1100025 (S 1046 0)))) else 0)) (by decide) ?_
    have ok26 : sm_ok (sv_up (sv_up (sv_up (sv_up (sv_up (sv_up (sv_up (sv_up (sv_up S 26 (S 1046 0) p1) 27 (S 1046 0) p2) 28 (S 1046 0) p3) 29 (S 1046 0) (S 1056 0)) 1046 0 ((S 1046 0) + (1 : Int))) 1100007 ((S 1046 0) + (1 : Int)) ((if (S 1047 0) = 0 then ((S 1100007 (S 1046 0)) + sm_dl p1 (p2)) else 0))) 1100023 ((S 1046 0) + (1 : Int)) ((if (S 1047 0) = 0 then (sm_nt p1 (S 1046 0) (S 1100023 (S 1046 0)) (S 1100023 (S 1100023 (S 1046 0)))) else 0))) 1100024 ((S 1046 0) + (1 : Int)) ((if (S 1047 0) = 0 then (sm_nd p1 (S 1100024 (S 1046 0))) else 0))) 1100025 ((S 1046 0) + (1 : Int)) ((if (S 1047 0) = 0 then (sm_nl p1 (S 1046 0) (S 1100007 (S 1046 0)) (S 1100025 (S 1046 0)) (S 1100007 (S 1100025 (S 1046 0))) (S 1100025 (S 1100025 (S 1046 0)))) else 0))) := sm_upI ok23 sm_r1100025 o25
    have md27 : sv_mod [26, 27, 28, 29, 1046, 1047, 1100007, 1100023, 1100024, 1100025] S (sv_up (sv_up (sv_up (sv_up (sv_up (sv_up (sv_up (sv_up (sv_up S 26 (S 1046 0) p1) 27 (S 1046 0) p2) 28 (S 1046 0) p3) 29 (S 1046 0) (S 1056 0)) 1046 0 ((S 1046 0) + (1 : Int))) 1100007 ((S 1046 0) + (1 : Int)) ((if (S 1047 0) = 0 then ((S 1100007 (S 1046 0)) + sm_dl p1 (p2)) else 0))) 1100023 ((S 1046 0) + (1 : Int)) ((if (S 1047 0) = 0 then (sm_nt p1 (S 1046 0) (S 1100023 (S 1046 0)) (S 1100023 (S 1100023 (S 1046 0)))) else 0))) 1100024 ((S 1046 0) + (1 : Int)) ((if (S 1047 0) = 0 then (sm_nd p1 (S 1100024 (S 1046 0))) else 0))) 1100025 ((S 1046 0) + (1 : Int)) ((if (S 1047 0) = 0 then (sm_nl p1 (S 1046 0) (S 1100007 (S 1046 0)) (S 1100025 (S 1046 0)) (S 1100007 (S 1100025 (S 1046 0))) (S 1100025 (S 1100025 (S 1046 0)))) else 0))) := sv_mod.up md24 (by decide)
    have k28 : ((S 1047 0) = 0 → sm_KC (S 26) (S 27) (S 28) (S 29) (S 1100007) (S 1100023) (S 1100024) (S 1100025) (S 31) (S 1100009) (S 1100027) (S 1100028) (S 1100026) (S 1100030) (S 21) (S 32) (S 33) (S 1046 0) (S 1053 0) (S 1056 0) (S 1032 0) (S 1007 0) (S 1100033 0) → (S 1046 0) < 600 → 0 ≤ p1 ∧ p1 ≤ 30 → sm_ci p1 (p2) (p3) (S 1100007 (S 1046 0)) (S 1100023 (S 1046 0)) (S 1100024 (S 1046 0)) (S 1100025 (S 1046 0)) (S 1100007 (S 1100023 (S 1046 0))) (S 1100007 (S 1100025 (S 1046 0))) (S 1100023 (S 1100023 (S 1046 0))) (S 1100025 (S 1100025 (S 1046 0))) (S 1046 0) (S 1100033 0) (S 1032 0) (S 1007 0) (S 21 p2) (S 1056 0) ((S 1100007 (S 1046 0)) + sm_dl p1 (p2)) (sm_nt p1 (S 1046 0) (S 1100023 (S 1046 0)) (S 1100023 (S 1100023 (S 1046 0)))) (sm_nl p1 (S 1046 0) (S 1100007 (S 1046 0)) (S 1100025 (S 1046 0)) (S 1100007 (S 1100025 (S 1046 0))) (S 1100025 (S 1100025 (S 1046 0)))) (S 1100009 p2) (S 1100027 p2) (S 1100028 p2) → ((21 ≤ p1 ∧ p1 ≤ 24) ∨ p1 = 27 ∨ p1 = 30 → 0 ≤ p2 ∧ p2 < (S 1053 0) ∧ (S 1100026 p2) = (S 1056 0)) → (p1 = 1 ∨ p1 = 2 → sm_vv (S 21) (S 32) (S 33) (S 1056 0) p2 p3) → sm_KC (fun i' : Int => if i' = (S 1046 0) then p1 else (S 26) i') (fun i' : Int => if i' = (S 1046 0) then p2 else (S 27) i') (fun i' : Int => if i' = (S 1046 0) then p3 else (S 28) i') (fun i' : Int => if i' = (S 1046 0) then (S 1056 0) else (S 29) i') (fun i' : Int => if i' = ((S 1046 0) + (1 : Int)) then ((if (S 1047 0) = 0 then ((S 1100007 (S 1046 0)) + sm_dl p1 (p2)) else 0)) else (S 1100007) i') (fun i' : Int => if i' = ((S 1046 0) + (1 : Int)) then ((if (S 1047 0) = 0 then (sm_nt p1 (S 1046 0) (S 1100023 (S 1046 0)) (S 1100023 (S 1100023 (S 1046 0)))) else 0)) else (S 1100023) i') (fun i' : Int => if i' = ((S 1046 0) + (1 : Int)) then ((if (S 1047 0) = 0 then (sm_nd p1 (S 1100024 (S 1046 0))) else 0)) else (S 1100024) i') (fun i' : Int => if i' = ((S 1046 0) + (1 : Int)) then ((if (S 1047 0) = 0 then (sm_nl p1 (S 1046 0) (S 1100007 (S 1046 0)) (S 1100025 (S 1046 0)) (S 1100007 (S 1100025 (S 1046 0))) (S 1100025 (S 1100025 (S 1046 0)))) else 0)) else (S 1100025) i') (S 31) (S 1100009) (S 1100027) (S 1100028) (S 1100026) (S 1100030) (S 21) (S 32) (S 33) ((S 1046 0) + (1 : Int)) (S 1053 0) (S 1056 0) (S 1032 0) (S 1007 0) (S 1100033 0) ∧ sm_MB (S 31) (S 1100030) (S 1053 0) ((S 1046 0) + (1 : Int))) := fun hm h hn ho e ej ev => ⟨sm_KC_emit h hn ho (by (repeat rw [if_pos hm]); exact e) ej ev (if_pos hm) (if_pos hm) (if_pos hm) (if_pos hm) ⟨rfl, rfl, rfl, rfl⟩ ⟨rfl, rfl, rfl, rfl⟩ rfl rfl, sm_MB_emit h rfl⟩
    have h := h k28
    exact sv_vret hM dX12_emit_69 rfl ⟨rfl, ok26, md27, h⟩
  · have h := h.2 (hc)
    refine sv_aload_n hM dX12_emit_10 rfl rfl ?_
    refine sv_iconst (d := (1 : Int)) hM dX12_emit_11 rfl rfl ?_
    refine sv_putI sm_X hM dX12_emit_12 sm_fp_609 (sm_a0 _) sm_q47 (Or.inr rfl) rfl (sv_nz (⟨by decide, by decide⟩ : 0 ≤ (1 : Int) ∧ (1 : Int) ≤ 1)) (sv_fz (⟨by decide, by decide⟩ : 0 ≤ (1 : Int) ∧ (1 : Int) ≤ 1)) rfl ?_
    have ok29 : sm_ok (sv_up S 1047 0 (1 : Int)) := sm_upZ hok sm_r1047 (⟨by decide, by decide⟩ : 0 ≤ (1 : Int) ∧ (1 : Int) ≤ 1)
    have md30 : sv_mod [26, 27, 28, 29, 1046, 1047, 1100007, 1100023, 1100024, 1100025] S (sv_up S 1047 0 (1 : Int)) := sv_mod.up sv_mod.rf (by decide)
    exact sv_vret hM dX12_emit_15 rfl ⟨rfl, ok29, md30, h⟩
