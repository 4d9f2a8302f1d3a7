
/-! what becomes of code that is being made -/
def sm_MB (pa Mp : Int → Int) (mk n : Int) : Prop := ∀ m : Int, 0 ≤ m → m < mk → Mp m = 1 → pa m < n
/-- all marks from lo on are placed -/
def sm_AP (Mp : Int → Int) (lo hi : Int) : Prop := ∀ m : Int, lo ≤ m → m < hi → Mp m = 1
theorem sm_AP_0 {Mp : Int → Int} {lo hi : Int} (h : hi ≤ lo) : sm_AP Mp lo hi := fun m h0 h1 => by omega
theorem sm_AP_s {Mp : Int → Int} {lo mid hi : Int} (h : sm_AP Mp lo mid) (k : sm_AP Mp mid hi) : sm_AP Mp lo hi := fun m h0 h1 => by
  by_cases z : m < mid
  · exact h m h0 z
  · exact k m (by omega) h1
theorem sm_AP_1 {Mp : Int → Int} {lo hi : Int} (h : Mp lo = 1) (k : sm_AP Mp (lo + 1) hi) : sm_AP Mp lo hi := fun m h0 h1 => by
  by_cases z : m = lo
  · rw [z]; exact h
  · exact k m (by omega) h1
theorem sm_AP_F {Mp Mp' : Int → Int} {lo hi m lo' hi' : Int} (h : sm_AP Mp lo hi) (f : sm_F1 Mp Mp' m) (hm : hi' ≤ m) (hl : lo ≤ lo') (hh : hi' ≤ hi) : sm_AP Mp' lo' hi' := fun k h0 h1 => by
  rw [f k (by omega)]
  exact h k (by omega) (by omega)
theorem sm_AP_up {Mp : Int → Int} {lo hi i x : Int} (h : sm_AP Mp lo hi) (hx : x = 1 ∨ i < lo ∨ hi ≤ i) : sm_AP (fun i' : Int => if i' = i then x else Mp i') lo hi := fun k h0 h1 => by
  (try dsimp only)
  by_cases z : k = i
  · rw [if_pos z]; omega
  · rw [if_neg z]; exact h k h0 h1
/-- heights within a range -/
def sm_HB (Ht : Int → Int) (lo hi B : Int) : Prop := ∀ k : Int, lo ≤ k → k < hi → 2 * Ht k ≤ B
theorem sm_HB_0 {Ht : Int → Int} {lo hi B : Int} (h : hi ≤ lo) : sm_HB Ht lo hi B := fun m h0 h1 => by omega
theorem sm_HB_s {Ht : Int → Int} {lo mid hi B : Int} (h : sm_HB Ht lo mid B) (k : sm_HB Ht mid hi B) : sm_HB Ht lo hi B := fun m h0 h1 => by
  by_cases z : m < mid
  · exact h m h0 z
  · exact k m (by omega) h1
theorem sm_HB_1 {Ht : Int → Int} {lo hi B : Int} (h : 2 * Ht lo ≤ B) (k : sm_HB Ht (lo + 1) hi B) : sm_HB Ht lo hi B := fun m h0 h1 => by
  by_cases z : m = lo
  · rw [z]; exact h
  · exact k m (by omega) h1
theorem sm_HB_F {Ht Ht' : Int → Int} {lo hi m lo' hi' B B' : Int} (h : sm_HB Ht lo hi B) (f : sm_F1 Ht Ht' m) (hm : hi' ≤ m) (hl : lo ≤ lo') (hh : hi' ≤ hi) (hB : B ≤ B') : sm_HB Ht' lo' hi' B' := fun k h0 h1 => by
  rw [f k (by omega)]
  have := h k (by omega) (by omega)
  omega
section CODER1
variable {op a b fo Ht Tr Td Ls pa Mh Mt Ml Mf Mp ar vs vm : Int → Int} {n mk f nf ns si : Int}
theorem sm_KC_si {si' : Int} (h : sm_KC op a b fo Ht Tr Td Ls pa Mh Mt Ml Mf Mp ar vs vm n mk f nf ns si) (hs : si ≤ si') : sm_KC op a b fo Ht Tr Td Ls pa Mh Mt Ml Mf Mp ar vs vm n mk f nf ns si' :=
  ⟨h.1, fun k k0 k1 => ⟨⟨(h.2.1 k k0 k1).1.1, sm_ci_si (h.2.1 k k0 k1).1.2.1 hs, (h.2.1 k k0 k1).1.2.2⟩, (h.2.1 k k0 k1).2⟩, h.2.2.1, h.2.2.2⟩
theorem sm_MB_emit (h : sm_KC op a b fo Ht Tr Td Ls pa Mh Mt Ml Mf Mp ar vs vm n mk f nf ns si) {n' : Int} (hn : n' = n + 1) : sm_MB pa Mp mk n' := fun m m0 m1 m2 => by
  have := (h.2.2.2 m m0 m1 m2).2.1
  omega
theorem sm_MB_w {n' : Int} (h : sm_MB pa Mp mk n) (hn : n ≤ n') : sm_MB pa Mp mk n' := fun m m0 m1 m2 => by
  have := h m m0 m1 m2
  omega
theorem sm_MB_mark {m5 x5 mk' : Int} (h : sm_MB pa Mp mk n) (hm : m5 = mk) (hx : x5 = 0) (hk : mk' = mk + 1) : sm_MB pa (fun i' : Int => if i' = m5 then x5 else Mp i') mk' n := fun m m0 m1 m2 => by
  dsimp only at m2
  by_cases z : m = m5
  · rw [if_pos z] at m2; omega
  · rw [if_neg z] at m2; exact h m m0 (by omega) m2
/-- a mark comes -/
theorem sm_KC_mark {m1 m2 m3 m4 m5 x1 x2 x3 x4 x5 mk' : Int} (h : sm_KC op a b fo Ht Tr Td Ls pa Mh Mt Ml Mf Mp ar vs vm n mk f nf ns si) (hm : m1 = mk ∧ m2 = mk ∧ m3 = mk ∧ m4 = mk ∧ m5 = mk) (hx : x5 = 0) (hk : mk' = mk + 1) :
    sm_KC op a b fo Ht Tr Td Ls pa (fun i' : Int => if i' = m1 then x1 else Mh i') (fun i' : Int => if i' = m2 then x2 else Mt i') (fun i' : Int => if i' = m3 then x3 else Ml i') (fun i' : Int => if i' = m4 then x4 else Mf i') (fun i' : Int => if i' = m5 then x5 else Mp i') ar vs vm n mk' f nf ns si := by
  obtain ⟨q1, q2, q3, q4, q5⟩ := hm
  subst m1 m2 m3 m4 m5 mk'
  refine ⟨by have := h.1; omega, fun k k0 k1 => ?_, h.2.2.1, fun m mm0 mm1 mm2 => ?_⟩
  · obtain ⟨⟨r1, r2, r3, r4, r5⟩, q⟩ := h.2.1 k k0 k1
    refine ⟨⟨r1, ?_, fun z => ?_, r4, r5⟩, q⟩
    · by_cases z : sm_ju (op k)
      · have w := r3 z
        (try dsimp only)
        rw [if_neg (by omega), if_neg (by omega), if_neg (by omega)]
        exact r2
      · exact sm_ci_j r2 z
    · have w := r3 z
      (try dsimp only)
      rw [if_neg (by omega)]
      exact ⟨w.1, by omega, w.2.2⟩
  · dsimp only at mm2
    by_cases z : m = mk
    · rw [if_pos z] at mm2; omega
    · rw [if_neg z] at mm2
      have w := h.2.2.2 m mm0 (by omega) mm2
      unfold sm_mp at w ⊢
      (try dsimp only)
      rw [if_neg z, if_neg z, if_neg z, if_neg z]
      exact w
/-- a mark is placed -/
theorem sm_KC_here {m i1 i2 x p : Int} (h : sm_KC op a b fo Ht Tr Td Ls pa Mh Mt Ml Mf Mp ar vs vm n mk f nf ns si) (e1 : Ht n = Mh m) (e2 : Tr n = Mt m) (e3 : Ls n = Ml m) (e4 : f = Mf m) (h1 : i1 = m) (h2 : i2 = m) (hx : x = n) :
    sm_KC op a b fo Ht Tr Td Ls (fun i' : Int => if i' = i1 then x else pa i') Mh Mt Ml Mf (fun i' : Int => if i' = i2 then p else Mp i') ar vs vm n mk f nf ns si := by
  subst i1 i2 x
  refine ⟨h.1, h.2.1, h.2.2.1, fun q q0 q1 q2 => ?_⟩
  have n0 := h.1.1
  unfold sm_mp
  dsimp only at q2 ⊢
  by_cases z : q = m
  · rw [if_pos z]
    rw [z]
    exact ⟨n0, by omega, e1, e2, e3, fun w => by omega, fun _ => e4⟩
  · rw [if_neg z] at q2 ⊢
    exact h.2.2.2 q q0 q1 q2
/-- behind a jump: what is now may be anything that was once -/
theorem sm_KC_set {k0 x1 x2 x3 x4 j1 j2 j3 j4 : Int} (h : sm_KC op a b fo Ht Tr Td Ls pa Mh Mt Ml Mf Mp ar vs vm n mk f nf ns si) (hb : sm_MB pa Mp mk n) (hn : 1 ≤ n) (hf : ¬ sm_fa (op (n - 1))) (hk : 0 ≤ k0 ∧ k0 < n) (hfo : fo k0 = f)
    (w1 : Ht k0 ≤ x1 ∧ x1 ≤ n + 2) (w2 : x2 = Tr k0) (w3 : x3 = Td k0) (w4 : x4 = Ls k0) (hj : j1 = n ∧ j2 = n ∧ j3 = n ∧ j4 = n) :
    sm_KC op a b fo (fun i' : Int => if i' = j1 then x1 else Ht i') (fun i' : Int => if i' = j2 then x2 else Tr i') (fun i' : Int => if i' = j3 then x3 else Td i') (fun i' : Int => if i' = j4 then x4 else Ls i') pa Mh Mt Ml Mf Mp ar vs vm n mk f nf ns si := by
  obtain ⟨q1, q2, q3, q4⟩ := hj
  subst j1 j2 j3 j4 x2 x3 x4
  obtain ⟨A0, A, B, C⟩ := h
  have E : ∀ (r : Int → Int) (x i : Int), i < n → (fun i' : Int => if i' = n then x else r i') i = r i := fun r x i q => if_neg (by omega)
  have En : ∀ (r : Int → Int) (x : Int), (fun i' : Int => if i' = n then x else r i') n = x := fun r x => if_pos rfl
  generalize hHt : (fun i' : Int => if i' = n then x1 else Ht i') = Ht'
  generalize hTr : (fun i' : Int => if i' = n then Tr k0 else Tr i') = Tr'
  generalize hTd : (fun i' : Int => if i' = n then Td k0 else Td i') = Td'
  generalize hLs : (fun i' : Int => if i' = n then Ls k0 else Ls i') = Ls'
  have o5 : ∀ i : Int, i < n → Ht' i = Ht i := fun i q => by rw [← hHt]; exact E Ht x1 i q
  have o6 : ∀ i : Int, i < n → Tr' i = Tr i := fun i q => by rw [← hTr]; exact E Tr _ i q
  have o7 : ∀ i : Int, i < n → Td' i = Td i := fun i q => by rw [← hTd]; exact E Td _ i q
  have o8 : ∀ i : Int, i < n → Ls' i = Ls i := fun i q => by rw [← hLs]; exact E Ls _ i q
  have p5' : Ht' n = x1 := by rw [← hHt]; exact En Ht x1
  have p6' : Tr' n = Tr k0 := by rw [← hTr]; exact En Tr _
  have p7' : Td' n = Td k0 := by rw [← hTd]; exact En Td _
  have p8' : Ls' n = Ls k0 := by rw [← hLs]; exact En Ls _
  clear hHt hTr hTd hLs E En
  refine ⟨A0, fun k k0' k1 => ?_, ?_, fun m mm0 mm1 mm2 => ?_⟩
  · obtain ⟨⟨r1, r2, r3, r4, r5⟩, qk⟩ := A k k0' k1
    have qb := qk.1
    refine ⟨⟨r1, ?_, r3, r4, r5⟩, ?_⟩
    · by_cases hk2 : k + 1 < n
      · exact sm_ci_e r2 rfl rfl rfl (o5 k k1) (o6 k k1) (o7 k k1) (o8 k k1) (by rw [o6 k k1, o5 _ (by omega)]) (by rw [o8 k k1, o5 _ (by omega)]) (by rw [o6 k k1, o6 _ (by omega)]) (by rw [o8 k k1, o8 _ (by omega)]) rfl rfl (o5 _ hk2) (o6 _ hk2) (o8 _ hk2)
      · have hk3 : k = n - 1 := by omega
        have r2' := sm_ci_x (H2 := Ht' (k + 1)) (T2 := Tr' (k + 1)) (L2 := Ls' (k + 1)) r2 (by rw [hk3]; exact hf)
        exact sm_ci_e r2' rfl rfl rfl (o5 k k1) (o6 k k1) (o7 k k1) (o8 k k1) (by rw [o6 k k1, o5 _ (by omega)]) (by rw [o8 k k1, o5 _ (by omega)]) (by rw [o6 k k1, o6 _ (by omega)]) (by rw [o8 k k1, o8 _ (by omega)]) rfl rfl rfl rfl rfl
    · exact sm_Q0_F qk k1 (fun z => by have := (A (Tr k) z (by omega)).2.1; omega) (fun _ _ => rfl) (fun _ _ => rfl) o5 o6 o7 o8
  · obtain ⟨c1, c2, c3, c4, c5⟩ := (A k0 hk.1 hk.2).2
    unfold sm_Q0
    rw [p5', p6', p7', p8']
    refine ⟨by omega, fun z => ?_, c3, fun z => ?_, fun z s s0 s1 => ?_⟩
    · rw [o7 _ (by omega)]
      have := c2 z
      exact ⟨this.1, this.2.1.trans hfo, this.2.2⟩
    · rw [o5 _ (by omega)]
      have := c4 z
      exact ⟨this.1, this.2.1.trans hfo, by omega, this.2.2.2⟩
    · rw [o5 _ (by omega)] at s1
      have := (A (Tr k0) z (by omega)).2.1
      rw [o8 (Tr k0) (by omega), sm_il_f o5 o8 (by omega), sm_il_f o5 o8 (by omega)]
      exact c5 z s s0 s1
  · have w := C m mm0 mm1 mm2
    have w2 := hb m mm0 mm1 mm2
    unfold sm_mp at w ⊢
    rw [o5 _ w2, o6 _ w2, o8 _ w2]
    exact w
end CODER1

