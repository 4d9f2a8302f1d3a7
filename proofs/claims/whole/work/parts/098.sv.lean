/-! STATES: worlds as numbers, by slot and index; the judgement sv_T: it ends, within F frames, with Q. -/
abbrev sv_S : Type := Nat → Int → Int
abbrev sv_F : Type := Option Nat × FieldType
abbrev sv_C : Type := (FieldType × Nat) ⊕ (Nat × List sv_F)
abbrev sv_I (x : Int) : Value := .int (Int32.ofInt x)
abbrev sv_L (x : Int) : Value := .long (Int64.ofInt x)
def sv_fv (S : sv_S) (j k : Nat) (q : sv_F) : Value := match q with
  | (some p, _) => .ref p
  | (none, .long) => sv_L (S (1000 * (j + 1) + k) 0)
  | (none, .array _) => .ref (S (1000 * (j + 1) + k) 0).toNat
  | (none, _) => sv_I (S (1000 * (j + 1) + k) 0)
def sv_av (S : sv_S) (j : Nat) (ty : FieldType) (n : Nat) : vp_A := match ty with
  | .long => (n, .inr (.inl (fun k => Int64.ofInt (S j k))))
  | _ => (n, .inl (fun k => Int32.ofInt (S j k)))
def sv_x (S : sv_S) (j : Nat) (c : sv_C) : ev_C := match c with
  | .inl (ty, n) => .inl (ty, sv_av S j ty n)
  | .inr (ci, fs) => .inr (ci, fs.mapIdx (sv_fv S j))
def sv_E (sh : List sv_C) (S : sv_S) : List ev_C := sh.mapIdx (sv_x S)
theorem sv_E_at {sh : List sv_C} {S : sv_S} {j : Nat} {c : sv_C} (h : sh[j]? = some c) : (sv_E sh S)[j]? = some (sv_x S j c) := by
  unfold sv_E
  rw [List.getElem?_mapIdx, h]
  rfl
def sv_up (S : sv_S) (j : Nat) (i v : Int) : sv_S := fun j' => if j' = j then (fun i' => if i' = i then v else S j i') else S j'
/-- slot j holds another row -/
def sv_st (S : sv_S) (j : Nat) (f : Int → Int) : sv_S := fun j' => if j' = j then f else S j'
def sv_gd (sh : List sv_C) : Prop := sh.length < 1000 ∧ ∀ ci fs, Sum.inr (ci, fs) ∈ sh → fs.length < 1000
theorem sv_x_eq {S S' : sv_S} {i : Nat} {c : sv_C} (h1 : S' i = S i) (h2 : ∀ ci fs k, c = .inr (ci, fs) → k < fs.length → S' (1000 * (i + 1) + k) = S (1000 * (i + 1) + k)) : sv_x S' i c = sv_x S i c := by
  cases c with
  | inl q =>
    obtain ⟨ty, n⟩ := q
    simp only [sv_x, sv_av, h1]
  | inr q =>
    obtain ⟨ci, fs⟩ := q
    simp only [sv_x]
    congr 2
    refine List.ext_getElem? fun k => ?_
    rw [List.getElem?_mapIdx, List.getElem?_mapIdx]
    cases hk : fs[k]? with
    | none => rfl
    | some q =>
      have hl := (List.getElem?_eq_some_iff.mp hk).1
      simp only [Option.map_some, sv_fv, h2 ci fs k rfl hl]
theorem sv_E_set {sh : List sv_C} {S S' : sv_S} {j : Nat} {c : sv_C} (h : sh[j]? = some c) (hs : ∀ i c', i ≠ j → sh[i]? = some c' → sv_x S' i c' = sv_x S i c') : (sv_E sh S).set j (sv_x S' j c) = sv_E sh S' := by
  refine List.ext_getElem? fun i => ?_
  simp only [sv_E, List.getElem?_set, List.getElem?_mapIdx, List.length_mapIdx]
  have hl := (List.getElem?_eq_some_iff.mp h).1
  by_cases hij : j = i
  · subst hij
    rw [if_pos rfl, if_pos hl, h]
    rfl
  · rw [if_neg hij]
    cases hsi : sh[i]? with
    | none => rfl
    | some c' => simp only [Option.map_some, hs i c' (Ne.symm hij) hsi]
theorem sv_up_ne {S : sv_S} {j j' : Nat} {i v : Int} (h : j' ≠ j) : sv_up S j i v j' = S j' := by unfold sv_up; rw [if_neg h]
theorem sv_up_eq {S : sv_S} {j : Nat} {i v : Int} : sv_up S j i v j = fun i' => if i' = i then v else S j i' := by unfold sv_up; rw [if_pos rfl]
/-- an array's cell is written -/
theorem sv_setA {sh : List sv_C} {S : sv_S} {j : Nat} {q : FieldType × Nat} {i v : Int} (hg : sv_gd sh) (h : sh[j]? = some (.inl q)) : (sv_E sh S).set j (sv_x (sv_up S j i v) j (.inl q)) = sv_E sh (sv_up S j i v) := by
  have hl := (List.getElem?_eq_some_iff.mp h).1
  have hg1 := hg.1
  exact sv_E_set h (fun k c' hk hc => sv_x_eq (sv_up_ne hk) (fun ci fs k' _ _ => sv_up_ne (by omega)))
/-- a field's slot is written -/
theorem sv_setF {sh : List sv_C} {S : sv_S} {j k : Nat} {q : Nat × List sv_F} {v : Int} (hg : sv_gd sh) (h : sh[j]? = some (.inr q)) (hk : k < q.2.length) : (sv_E sh S).set j (sv_x (sv_up S (1000 * (j + 1) + k) 0 v) j (.inr q)) = sv_E sh (sv_up S (1000 * (j + 1) + k) 0 v) := by
  have hl := (List.getElem?_eq_some_iff.mp h).1
  obtain ⟨ci, fs⟩ := q
  have hg1 := hg.1
  have hgk := hg.2 ci fs (List.mem_of_getElem? h)
  simp only at hk
  exact sv_E_set h (fun i c' hi hc => sv_x_eq (sv_up_ne (by have := (List.getElem?_eq_some_iff.mp hc).1; omega)) (fun ci' fs' k' hcc hk' => sv_up_ne (by
    subst hcc
    have := hg.2 ci' fs' (List.mem_of_getElem? hc)
    omega)))
theorem sv_x_field {S : sv_S} {j k : Nat} {ci : Nat} {fs : List sv_F} {v : Int} {q : sv_F} (hk : fs[k]? = some q) (h1000 : fs.length < 1000) :
    (Sum.inr (ci, (fs.mapIdx (sv_fv S j)).set k (sv_fv (sv_up S (1000 * (j + 1) + k) 0 v) j k q)) : ev_C) = sv_x (sv_up S (1000 * (j + 1) + k) 0 v) j (.inr (ci, fs)) := by
  simp only [sv_x]
  congr 2
  refine List.ext_getElem? fun i => ?_
  have hl := (List.getElem?_eq_some_iff.mp hk).1
  rw [List.getElem?_set, List.length_mapIdx, List.getElem?_mapIdx, List.getElem?_mapIdx]
  by_cases hik : k = i
  · subst hik
    rw [if_pos rfl, if_pos hl, hk]
    rfl
  · rw [if_neg hik]
    cases hi : fs[i]? with
    | none => rfl
    | some q' =>
      simp only [Option.map_some]
      congr 1
      simp only [sv_fv]
      rw [sv_up_ne (by omega)]
/-- the shape of a world and what has been made: they hang on the slots from 1100000 on alone -/
def sv_X (sh : sv_S → List sv_C) (cs : sv_S → Nat × Nat) : Prop := (∀ S, sv_gd (sh S)) ∧ ∀ (S : sv_S) (j : Nat) (i v : Int), j ≠ 1100000 → sh (sv_up S j i v) = sh S ∧ cs (sv_up S j i v) = cs S
theorem sv_XA {sh : sv_S → List sv_C} {cs : sv_S → Nat × Nat} {S : sv_S} {j : Nat} {q : FieldType × Nat} {i v : Int} (hX : sv_X sh cs) (h : (sh S)[j]? = some (.inl q)) : (sv_E (sh S) S).set j (sv_x (sv_up S j i v) j (.inl q)) = sv_E (sh (sv_up S j i v)) (sv_up S j i v) ∧ cs (sv_up S j i v) = cs S := by
  have hl := (List.getElem?_eq_some_iff.mp h).1
  have hg := hX.1 S
  obtain ⟨e1, e2⟩ := hX.2 S j i v (by have := hg.1; omega)
  rw [e1]
  exact ⟨sv_setA hg h, e2⟩
theorem sv_XF {sh : sv_S → List sv_C} {cs : sv_S → Nat × Nat} {S : sv_S} {j k : Nat} {q : Nat × List sv_F} {v : Int} (hX : sv_X sh cs) (h : (sh S)[j]? = some (.inr q)) (hk : k < q.2.length) : (sv_E (sh S) S).set j (sv_x (sv_up S (1000 * (j + 1) + k) 0 v) j (.inr q)) = sv_E (sh (sv_up S (1000 * (j + 1) + k) 0 v)) (sv_up S (1000 * (j + 1) + k) 0 v) ∧ cs (sv_up S (1000 * (j + 1) + k) 0 v) = cs S := by
  have hl := (List.getElem?_eq_some_iff.mp h).1
  have hg := hX.1 S
  obtain ⟨ci, fs⟩ := q
  have hg2 := hg.2 ci fs (List.mem_of_getElem? h)
  simp only at hk
  obtain ⟨e1, e2⟩ := hX.2 S (1000 * (j + 1) + k) 0 v (by have := hg.1; omega)
  rw [e1]
  exact ⟨sv_setF hg h hk, e2⟩
/-- an int's range -/
abbrev sv_R (x : Int) : Prop := -2147483648 ≤ x ∧ x ≤ 2147483647
abbrev sv_RL (x : Int) : Prop := -9223372036854775808 ≤ x ∧ x ≤ 9223372036854775807
theorem sv_Ii {x : Int} (h : sv_R x) : (Int32.ofInt x).toInt = x := Int32.toInt_ofInt_of_le (by omega) (by omega)
theorem sv_Li {x : Int} (h : sv_RL x) : (Int64.ofInt x).toInt = x := Int64.toInt_ofInt_of_le (by omega) (by omega)
theorem sv_Ieq {x y : Int} (hx : sv_R x) (hy : sv_R y) : (Int32.ofInt x = Int32.ofInt y) ↔ x = y := by rw [← Int32.toInt_inj, sv_Ii hx, sv_Ii hy]
theorem sv_Ilt {x y : Int} (hx : sv_R x) (hy : sv_R y) : (Int32.ofInt x < Int32.ofInt y) ↔ x < y := by rw [Int32.lt_iff_toInt_lt, sv_Ii hx, sv_Ii hy]
theorem sv_Ile {x y : Int} (hx : sv_R x) (hy : sv_R y) : (Int32.ofInt x ≤ Int32.ofInt y) ↔ x ≤ y := by rw [Int32.le_iff_toInt_le, sv_Ii hx, sv_Ii hy]
theorem sv_in {i : Int} {n : Nat} (h0 : 0 ≤ i) (h1 : i < n) (hn : n < 2147483648) : ev_in (Int32.ofInt i) n = true ∧ ((Int32.ofInt i).toNatClampNeg : Int) = i := by
  have hr : sv_R i := ⟨by omega, by omega⟩
  have e : (Int32.ofInt i).toNatClampNeg = i.toNat := by rw [← Int32.toNat_toInt, sv_Ii hr]
  refine ⟨?_, by rw [e]; omega⟩
  unfold ev_in
  refine decide_eq_true ?_
  rw [e]
  intro q
  rcases q with q | q
  · have h2 := Int32.lt_iff_toInt_lt.mp q
    rw [sv_Ii hr] at h2
    have h3 : (0 : Int32).toInt = 0 := rfl
    omega
  · omega
/-- rows of slots: those of l come out of g -/
def sv_sts (S : sv_S) (l : List Nat) (g : sv_S) : sv_S := fun j => if j ∈ l then g j else S j
def sv_mod (l : List Nat) (S S' : sv_S) : Prop := ∀ j, j ∉ l → S' j = S j
theorem sv_mod.rf {l : List Nat} {S : sv_S} : sv_mod l S S := fun _ _ => rfl
theorem sv_mod.up {l : List Nat} {S S' : sv_S} {j : Nat} {i v : Int} (h : sv_mod l S S') (hj : j ∈ l) : sv_mod l S (sv_up S' j i v) := fun k hk => (sv_up_ne (fun q => hk (by rw [q]; exact hj))).trans (h k hk)
theorem sv_mod.sts {l m : List Nat} {S S' g : sv_S} (h : sv_mod l S S') (hm : m.all (fun j => l.contains j) = true) : sv_mod l S (sv_sts S' m g) := fun k hk => by
  unfold sv_sts
  rw [if_neg (fun q => hk (by have := List.all_eq_true.mp hm k q; simpa using this))]
  exact h k hk
theorem sv_mod.eq {l : List Nat} {S S' : sv_S} (h : sv_mod l S S') : S' = sv_sts S l S' := by
  funext j
  unfold sv_sts
  by_cases hj : j ∈ l
  · rw [if_pos hj]
  · rw [if_neg hj]; exact h j hj
/-- what a slot may hold: 0 int, 1 long, 2 byte, 3 char, 4 boolean -/
def sv_lo : Nat → Int
  | 1 => -9223372036854775808 | 2 => -128 | 3 => 0 | 4 => 0 | _ => -2147483648
def sv_hi : Nat → Int
  | 1 => 9223372036854775807 | 2 => 127 | 3 => 65535 | 4 => 1 | _ => 2147483647
def sv_ok (rk : Nat → Nat) (S : sv_S) : Prop := ∀ j i, sv_lo (rk j) ≤ S j i ∧ S j i ≤ sv_hi (rk j)
theorem sv_ok.up {rk : Nat → Nat} {S : sv_S} {j : Nat} {i v : Int} (h : sv_ok rk S) (hv : sv_lo (rk j) ≤ v ∧ v ≤ sv_hi (rk j)) : sv_ok rk (sv_up S j i v) := by
  intro j' i'
  unfold sv_up
  split
  · rename_i q; subst q
    dsimp only
    split
    · exact hv
    · exact h _ _
  · exact h _ _
theorem ev_inv_str {iv : Nat → Option (Option Nat × Nat × Nat)} {i k n b : Nat} {st rest : List Value} {E : List ev_C} (h1 : iv i = some (some 999, k, n)) (h2 : st.drop n = .ref b :: rest) : ev_inv iv (.invokevirtual i) 3 st E = some (k, .ref b :: (st.take n).reverse, rest) := by
  simp only [ev_inv, h1, h2, if_pos]
def sv_T (X : Nat → Option (List Int32)) (cs : sv_S → Nat × Nat) (L : Nat → Option ev_M) (sh : sv_S → List sv_C) (F : Nat) (Q : Option Value → sv_S → Prop) (y pc : Nat) (lv : List (Nat × Value)) (st : List Value) (S : sv_S) : Prop :=
  ∃ (n : Nat) (v : Option Value) (S' : sv_S) (f w c d : Nat), ev_run X L n y pc lv st (sv_E (sh S) S) = some (v, sv_E (sh S') S', f, w, c, d) ∧ f ≤ F ∧ w ≤ 41 * F ∧ (cs S).1 + c = (cs S').1 ∧ (cs S).2 + d = (cs S').2 ∧ Q v S'
section SVT
variable {X : Nat → Option (List Int32)} {cs : sv_S → Nat × Nat} {L : Nat → Option ev_M} {sh : sv_S → List sv_C} {F : Nat} {Q : Option Value → sv_S → Prop} {y pc pc' len : Nat} {lv lv' : List (Nat × Value)} {st st' : List Value} {S S' : sv_S} {M : ev_M} {ins : Instr}
theorem sv_mono {F' : Nat} {Q' : Option Value → sv_S → Prop} (h : sv_T X cs L sh F Q y pc lv st S) (hF : F ≤ F') (hQ : ∀ v S', Q v S' → Q' v S') : sv_T X cs L sh F' Q' y pc lv st S := by
  obtain ⟨n, v, S', f, w, c, d, h1, h2, h3, h4, h5, h6⟩ := h
  exact ⟨n, v, S', f, w, c, d, h1, Nat.le_trans h2 hF, by omega, h4, h5, hQ _ _ h6⟩
theorem sv_step {E' : List ev_C} (hE : E' = sv_E (sh S') S' ∧ cs S' = cs S) (h1 : ∀ n, ev_run X L (n + 1) y pc lv st (sv_E (sh S) S) = ev_run X L n y pc' lv' st' E') (k : sv_T X cs L sh F Q y pc' lv' st' S') : sv_T X cs L sh F Q y pc lv st S := by
  obtain ⟨hE, hc⟩ := hE
  subst hE
  obtain ⟨n, v, S', f, w, c, d, h, hf⟩ := k
  rw [hc] at hf
  exact ⟨n + 1, v, S', f, w, c, d, (h1 n).trans h, hf⟩
theorem sv_pure (hM : L y = some M) (hd : decode M.1.2.1 pc = .ok (ins, len)) (h : ev_pure M.1.2.2.1 lv ins len st = some (lv', st')) (hp : pc + len = pc') (k : sv_T X cs L sh F Q y pc' lv' st' S) : sv_T X cs L sh F Q y pc lv st S := by
  subst hp
  exact sv_step ⟨rfl, rfl⟩ (fun n => by rw [ev_run, hM]; dsimp only; rw [hd]; dsimp only; rw [h]) k
theorem sv_jump (hM : L y = some M) (hd : decode M.1.2.1 pc = .ok (ins, len)) (h0 : ev_pure M.1.2.2.1 lv ins len st = none) (h : ev_jump pc ins len st = some (pc', st')) (k : sv_T X cs L sh F Q y pc' lv st' S) : sv_T X cs L sh F Q y pc lv st S :=
  sv_step ⟨rfl, rfl⟩ (fun n => by rw [ev_run, hM]; dsimp only; rw [hd]; dsimp only; rw [h0]; dsimp only; rw [h]) k
theorem sv_look (hM : L y = some M) (hd : decode M.1.2.1 pc = .ok (ins, len)) (h0 : ev_pure M.1.2.2.1 lv ins len st = none) (h1 : ev_jump pc ins len st = none) (h : ev_look M.2.1 ins len st (sv_E (sh S) S) = some st') (hp : pc + len = pc') (k : sv_T X cs L sh F Q y pc' lv st' S) : sv_T X cs L sh F Q y pc lv st S := by
  subst hp
  exact sv_step ⟨rfl, rfl⟩ (fun n => by rw [ev_run, hM]; dsimp only; rw [hd]; dsimp only; rw [h0]; dsimp only; rw [h1]; dsimp only; rw [h]) k
theorem sv_const (hM : L y = some M) (hd : decode M.1.2.1 pc = .ok (ins, len)) (h0 : ev_pure M.1.2.2.1 lv ins len st = none) (h1 : ev_jump pc ins len st = none) (h2 : ev_look M.2.1 ins len st (sv_E (sh S) S) = none) (h : ev_const M.2.2.2.1 ins len st = some st') (hp : pc + len = pc') (k : sv_T X cs L sh F Q y pc' lv st' S) : sv_T X cs L sh F Q y pc lv st S := by
  subst hp
  exact sv_step ⟨rfl, rfl⟩ (fun n => by rw [ev_run, hM]; dsimp only; rw [hd]; dsimp only; rw [h0]; dsimp only; rw [h1]; dsimp only; rw [h2]; dsimp only; rw [h]) k
theorem sv_store {E' : List ev_C} (hM : L y = some M) (hd : decode M.1.2.1 pc = .ok (ins, len)) (h0 : ev_pure M.1.2.2.1 lv ins len st = none) (h1 : ev_jump pc ins len st = none) (h2 : ev_look M.2.1 ins len st (sv_E (sh S) S) = none) (h3 : ev_const M.2.2.2.1 ins len st = none) (h : ev_store M.2.2.1 false ins len st (sv_E (sh S) S) = some (st', E')) (hE : E' = sv_E (sh S') S' ∧ cs S' = cs S) (hp : pc + len = pc') (k : sv_T X cs L sh F Q y pc' lv st' S') : sv_T X cs L sh F Q y pc lv st S := by
  subst hp
  exact sv_step hE (fun n => by rw [ev_run, hM]; dsimp only; rw [hd]; dsimp only; rw [h0]; dsimp only; rw [h1]; dsimp only; rw [h2]; dsimp only; rw [h3]; dsimp only; rw [h]) k
theorem sv_ret {v : Option Value} (hM : L y = some M) (hd : decode M.1.2.1 pc = .ok (ins, len)) (h0 : ev_pure M.1.2.2.1 lv ins len st = none) (h1 : ev_jump pc ins len st = none) (h2 : ev_look M.2.1 ins len st (sv_E (sh S) S) = none) (h3 : ev_const M.2.2.2.1 ins len st = none) (h4 : ev_store M.2.2.1 false ins len st (sv_E (sh S) S) = none) (h : ev_ret M.1.2.2.2 ins len st = some v) (k : Q v S) : sv_T X cs L sh F Q y pc lv st S :=
  ⟨1, v, S, 0, 0, 0, 0, by rw [ev_run, hM]; dsimp only; rw [hd]; dsimp only; rw [h0]; dsimp only; rw [h1]; dsimp only; rw [h2]; dsimp only; rw [h3]; dsimp only; rw [h4]; dsimp only; rw [h], Nat.zero_le _, Nat.zero_le _, rfl, rfl, k⟩
theorem sv_call {N : ev_M} {z F' : Nat} {as rest : List Value} {P : Option Value → sv_S → Prop} (hM : L y = some M) (hd : decode M.1.2.1 pc = .ok (ins, len)) (h0 : ev_pure M.1.2.2.1 lv ins len st = none) (h1 : ev_jump pc ins len st = none) (h2 : ev_look M.2.1 ins len st (sv_E (sh S) S) = none) (h3 : ev_const M.2.2.2.1 ins len st = none) (h4 : ev_store M.2.2.1 false ins len st (sv_E (sh S) S) = none) (h5 : ev_ret M.1.2.2.2 ins len st = none)
    (h : ev_inv M.2.2.2.2 ins len st (sv_E (sh S) S) = some (z, as, rest)) (hr : (rest.map fun v => v.category).sum ≤ 8) (hN : L z = some N) (hl : (lg_sl as).length ≤ N.1.2.2.1) (hw : N.1.2.2.1 ≤ 22) (hF : F' + 1 ≤ F) (hp : pc + 3 = pc')
    (hz : sv_T X cs L sh F' P z 0 (lv_args 0 as) [] S) (k : ∀ v S1, P v S1 → sv_T X cs L sh F Q y pc' lv (v.toList ++ rest) S1) : sv_T X cs L sh F Q y pc lv st S := by
  subst hp
  obtain ⟨n1, v1, S1, f1, w1, c1, d1, g1, g2, g3, g5, g6, g4⟩ := hz
  obtain ⟨n2, v2, S2, f2, w2, c2, d2, k1, k2, k3, k5, k6, k4⟩ := k v1 S1 g4
  refine ⟨n1 + n2 + 1, v2, S2, max (f1 + 1) f2, max (8 + (N.1.2.2.1 + 11) + w1) w2, c1 + c2, d1 + d2, ?_, by omega, by omega, by omega, by omega, k4⟩
  rw [ev_run, hM]; dsimp only; rw [hd]; dsimp only; rw [h0]; dsimp only; rw [h1]; dsimp only; rw [h2]; dsimp only; rw [h3]; dsimp only; rw [h4]; dsimp only; rw [h5]; dsimp only; rw [h]; dsimp only
  rw [if_pos hr, hN]; dsimp only
  rw [if_pos hl, ev_more g1]; dsimp only
  rw [show n1 + n2 = n2 + n1 from Nat.add_comm _ _, ev_more k1]
theorem sv_iload_n {x : Int} {i : Fin 4} (hM : L y = some M) (hd : decode M.1.2.1 pc = .ok (.iload_n i, 1)) (h : ev_ld lv i = some (sv_I x)) (hp : pc + 1 = pc') (k : sv_T X cs L sh F Q y pc' lv (sv_I x :: st) S) : sv_T X cs L sh F Q y pc lv (st) S := sv_pure hM hd (by show (match ev_ld lv i with | some (Value.int x) => some (lv, Value.int x :: st) | _ => none) = _; rw [h]) hp k
theorem sv_iload {x : Int} {i : Nat} (hM : L y = some M) (hd : decode M.1.2.1 pc = .ok (.iload i, 2)) (h : ev_ld lv i = some (sv_I x)) (hp : pc + 2 = pc') (k : sv_T X cs L sh F Q y pc' lv (sv_I x :: st) S) : sv_T X cs L sh F Q y pc lv (st) S := sv_pure hM hd (by show (match ev_ld lv i with | some (Value.int x) => some (lv, Value.int x :: st) | _ => none) = _; rw [h]) hp k
theorem sv_lload_n {x : Int} {i : Fin 4} (hM : L y = some M) (hd : decode M.1.2.1 pc = .ok (.lload_n i, 1)) (h : ev_ld lv i = some (sv_L x)) (hp : pc + 1 = pc') (k : sv_T X cs L sh F Q y pc' lv (sv_L x :: st) S) : sv_T X cs L sh F Q y pc lv (st) S := sv_pure hM hd (by show (match ev_ld lv i with | some (Value.long x) => some (lv, Value.long x :: st) | _ => none) = _; rw [h]) hp k
theorem sv_lload {x : Int} {i : Nat} (hM : L y = some M) (hd : decode M.1.2.1 pc = .ok (.lload i, 2)) (h : ev_ld lv i = some (sv_L x)) (hp : pc + 2 = pc') (k : sv_T X cs L sh F Q y pc' lv (sv_L x :: st) S) : sv_T X cs L sh F Q y pc lv (st) S := sv_pure hM hd (by show (match ev_ld lv i with | some (Value.long x) => some (lv, Value.long x :: st) | _ => none) = _; rw [h]) hp k
theorem sv_aload_n {a : Nat} {i : Fin 4} (hM : L y = some M) (hd : decode M.1.2.1 pc = .ok (.aload_n i, 1)) (h : ev_ld lv i = some (.ref a)) (hp : pc + 1 = pc') (k : sv_T X cs L sh F Q y pc' lv (.ref a :: st) S) : sv_T X cs L sh F Q y pc lv (st) S := sv_pure hM hd (by show (match ev_ld lv i with | some (Value.ref x) => some (lv, Value.ref x :: st) | _ => none) = _; rw [h]) hp k
theorem sv_aload {a : Nat} {i : Nat} (hM : L y = some M) (hd : decode M.1.2.1 pc = .ok (.aload i, 2)) (h : ev_ld lv i = some (.ref a)) (hp : pc + 2 = pc') (k : sv_T X cs L sh F Q y pc' lv (.ref a :: st) S) : sv_T X cs L sh F Q y pc lv (st) S := sv_pure hM hd (by show (match ev_ld lv i with | some (Value.ref x) => some (lv, Value.ref x :: st) | _ => none) = _; rw [h]) hp k
theorem sv_istore_n {x : Int} {i : Fin 4} (hM : L y = some M) (hd : decode M.1.2.1 pc = .ok (.istore_n i, 1)) (h : (i : Nat) < M.1.2.2.1) (hp : pc + 1 = pc') (k : sv_T X cs L sh F Q y pc' (ev_st1 lv i (sv_I x)) (st) S) : sv_T X cs L sh F Q y pc lv (sv_I x :: st) S := sv_pure hM hd (by show (if (i : Nat) < M.1.2.2.1 then some (ev_st1 lv i (sv_I x), st) else none) = _; rw [if_pos h]) hp k
theorem sv_istore {x : Int} {i : Nat} (hM : L y = some M) (hd : decode M.1.2.1 pc = .ok (.istore i, 2)) (h : (i : Nat) < M.1.2.2.1) (hp : pc + 2 = pc') (k : sv_T X cs L sh F Q y pc' (ev_st1 lv i (sv_I x)) (st) S) : sv_T X cs L sh F Q y pc lv (sv_I x :: st) S := sv_pure hM hd (by show (if (i : Nat) < M.1.2.2.1 then some (ev_st1 lv i (sv_I x), st) else none) = _; rw [if_pos h]) hp k
theorem sv_lstore_n {x : Int} {i : Fin 4} (hM : L y = some M) (hd : decode M.1.2.1 pc = .ok (.lstore_n i, 1)) (h : (i : Nat) + 1 < M.1.2.2.1) (hp : pc + 1 = pc') (k : sv_T X cs L sh F Q y pc' (ev_st2 lv i (sv_L x)) (st) S) : sv_T X cs L sh F Q y pc lv (sv_L x :: st) S := sv_pure hM hd (by show (if (i : Nat) + 1 < M.1.2.2.1 then some (ev_st2 lv i (sv_L x), st) else none) = _; rw [if_pos h]) hp k
theorem sv_lstore {x : Int} {i : Nat} (hM : L y = some M) (hd : decode M.1.2.1 pc = .ok (.lstore i, 2)) (h : (i : Nat) + 1 < M.1.2.2.1) (hp : pc + 2 = pc') (k : sv_T X cs L sh F Q y pc' (ev_st2 lv i (sv_L x)) (st) S) : sv_T X cs L sh F Q y pc lv (sv_L x :: st) S := sv_pure hM hd (by show (if (i : Nat) + 1 < M.1.2.2.1 then some (ev_st2 lv i (sv_L x), st) else none) = _; rw [if_pos h]) hp k
theorem sv_iinc {x d : Int} {i : Nat} {c : Int} (hM : L y = some M) (hd : decode M.1.2.1 pc = .ok (.iinc i c, 3)) (h : ev_ld lv i = some (sv_I x)) (h2 : i < M.1.2.2.1) (hc : Int32.ofInt c = Int32.ofInt d) (hp : pc + 3 = pc') (k : sv_T X cs L sh F Q y pc' (ev_st1 lv i (sv_I (x + d))) (st) S) : sv_T X cs L sh F Q y pc lv (st) S := sv_pure hM hd (by show (match ev_ld lv i with | some (.int x) => if i < M.1.2.2.1 then some (ev_st1 lv i (.int (x + Int32.ofInt c)), st) else none | _ => none) = _; rw [h]; dsimp only; rw [if_pos h2, hc, ← Int32.ofInt_add]) hp k
theorem sv_iconst {c d : Int} (hM : L y = some M) (hd : decode M.1.2.1 pc = .ok (.iconst c, 1)) (h : Int32.ofInt c = Int32.ofInt d) (hp : pc + 1 = pc') (k : sv_T X cs L sh F Q y pc' lv (sv_I d :: st) S) : sv_T X cs L sh F Q y pc lv (st) S := sv_pure hM hd (by show some (lv, Value.int (Int32.ofInt c) :: st) = _; rw [h]) hp k
theorem sv_bipush {c d : Int} (hM : L y = some M) (hd : decode M.1.2.1 pc = .ok (.bipush c, 2)) (h : (Int8.ofInt c).toInt32 = Int32.ofInt d) (hp : pc + 2 = pc') (k : sv_T X cs L sh F Q y pc' lv (sv_I d :: st) S) : sv_T X cs L sh F Q y pc lv (st) S := sv_pure hM hd (by show some (lv, Value.int (Int8.ofInt c).toInt32 :: st) = _; rw [h]) hp k
theorem sv_sipush {c d : Int} (hM : L y = some M) (hd : decode M.1.2.1 pc = .ok (.sipush c, 3)) (h : (Int16.ofInt c).toInt32 = Int32.ofInt d) (hp : pc + 3 = pc') (k : sv_T X cs L sh F Q y pc' lv (sv_I d :: st) S) : sv_T X cs L sh F Q y pc lv (st) S := sv_pure hM hd (by show some (lv, Value.int (Int16.ofInt c).toInt32 :: st) = _; rw [h]) hp k
theorem sv_lconst {c : Fin 2} {d : Int} (hM : L y = some M) (hd : decode M.1.2.1 pc = .ok (.lconst c, 1)) (h : Int64.ofNat (c : Nat) = Int64.ofInt d) (hp : pc + 1 = pc') (k : sv_T X cs L sh F Q y pc' lv (sv_L d :: st) S) : sv_T X cs L sh F Q y pc lv (st) S := sv_pure hM hd (by show some (lv, Value.long (Int64.ofNat (c : Nat)) :: st) = _; rw [h]) hp k
theorem sv_iadd {x z : Int} (hM : L y = some M) (hd : decode M.1.2.1 pc = .ok (.iadd, 1)) (hp : pc + 1 = pc') (k : sv_T X cs L sh F Q y pc' lv (sv_I (x + z) :: st) S) : sv_T X cs L sh F Q y pc lv (sv_I z :: sv_I x :: st) S := sv_pure hM hd (by show some (lv, Value.int (Int32.ofInt x + Int32.ofInt z) :: st) = _; rw [sv_I, Int32.ofInt_add]) hp k
theorem sv_ladd {x z : Int} (hM : L y = some M) (hd : decode M.1.2.1 pc = .ok (.ladd, 1)) (hp : pc + 1 = pc') (k : sv_T X cs L sh F Q y pc' lv (sv_L (x + z) :: st) S) : sv_T X cs L sh F Q y pc lv (sv_L z :: sv_L x :: st) S := sv_pure hM hd (by show some (lv, Value.long (Int64.ofInt x + Int64.ofInt z) :: st) = _; rw [sv_L, Int64.ofInt_add]) hp k
theorem sv_isub {x z : Int} (hM : L y = some M) (hd : decode M.1.2.1 pc = .ok (.isub, 1)) (hp : pc + 1 = pc') (k : sv_T X cs L sh F Q y pc' lv (sv_I (x - z) :: st) S) : sv_T X cs L sh F Q y pc lv (sv_I z :: sv_I x :: st) S := sv_pure hM hd (by show some (lv, Value.int (Int32.ofInt x - Int32.ofInt z) :: st) = _; rw [sv_I, Int32.ofInt_sub]) hp k
theorem sv_lsub {x z : Int} (hM : L y = some M) (hd : decode M.1.2.1 pc = .ok (.lsub, 1)) (hp : pc + 1 = pc') (k : sv_T X cs L sh F Q y pc' lv (sv_L (x - z) :: st) S) : sv_T X cs L sh F Q y pc lv (sv_L z :: sv_L x :: st) S := sv_pure hM hd (by show some (lv, Value.long (Int64.ofInt x - Int64.ofInt z) :: st) = _; rw [sv_L, Int64.ofInt_sub]) hp k
theorem sv_imul {x z : Int} (hM : L y = some M) (hd : decode M.1.2.1 pc = .ok (.imul, 1)) (hp : pc + 1 = pc') (k : sv_T X cs L sh F Q y pc' lv (sv_I (x * z) :: st) S) : sv_T X cs L sh F Q y pc lv (sv_I z :: sv_I x :: st) S := sv_pure hM hd (by show some (lv, Value.int (Int32.ofInt x * Int32.ofInt z) :: st) = _; rw [sv_I, Int32.ofInt_mul]) hp k
theorem sv_lmul {x z : Int} (hM : L y = some M) (hd : decode M.1.2.1 pc = .ok (.lmul, 1)) (hp : pc + 1 = pc') (k : sv_T X cs L sh F Q y pc' lv (sv_L (x * z) :: st) S) : sv_T X cs L sh F Q y pc lv (sv_L z :: sv_L x :: st) S := sv_pure hM hd (by show some (lv, Value.long (Int64.ofInt x * Int64.ofInt z) :: st) = _; rw [sv_L, Int64.ofInt_mul]) hp k
theorem sv_ineg {x : Int} (hM : L y = some M) (hd : decode M.1.2.1 pc = .ok (.ineg, 1)) (hp : pc + 1 = pc') (k : sv_T X cs L sh F Q y pc' lv (sv_I (-x) :: st) S) : sv_T X cs L sh F Q y pc lv (sv_I x :: st) S := sv_pure hM hd (by show some (lv, Value.int (-Int32.ofInt x) :: st) = _; rw [sv_I, Int32.ofInt_neg]) hp k
theorem sv_lneg {x : Int} (hM : L y = some M) (hd : decode M.1.2.1 pc = .ok (.lneg, 1)) (hp : pc + 1 = pc') (k : sv_T X cs L sh F Q y pc' lv (sv_L (-x) :: st) S) : sv_T X cs L sh F Q y pc lv (sv_L x :: st) S := sv_pure hM hd (by show some (lv, Value.long (-Int64.ofInt x) :: st) = _; rw [sv_L, Int64.ofInt_neg]) hp k
theorem sv_i2l {x : Int} (hM : L y = some M) (hd : decode M.1.2.1 pc = .ok (.i2l, 1)) (hx : sv_R x) (hp : pc + 1 = pc') (k : sv_T X cs L sh F Q y pc' lv (sv_L x :: st) S) : sv_T X cs L sh F Q y pc lv (sv_I x :: st) S := sv_pure hM hd (by show some (lv, Value.long (Int32.ofInt x).toInt64 :: st) = _; rw [Int32.toInt64_ofInt (by have e : Int32.minValue.toInt = -2147483648 := rfl; omega) (by have e : Int32.maxValue.toInt = 2147483647 := rfl; omega)]) hp k
theorem sv_l2i {x : Int} (hM : L y = some M) (hd : decode M.1.2.1 pc = .ok (.l2i, 1)) (hp : pc + 1 = pc') (k : sv_T X cs L sh F Q y pc' lv (sv_I x :: st) S) : sv_T X cs L sh F Q y pc lv (sv_L x :: st) S := sv_pure hM hd (by show some (lv, Value.int (Int64.ofInt x).toInt32 :: st) = _; rw [Int64.toInt32_ofInt]) hp k
theorem sv_dupI {x : Int} (hM : L y = some M) (hd : decode M.1.2.1 pc = .ok (.dup, 1)) (hp : pc + 1 = pc') (k : sv_T X cs L sh F Q y pc' lv (sv_I x :: sv_I x :: st) S) : sv_T X cs L sh F Q y pc lv (sv_I x :: st) S := sv_pure hM hd rfl hp k
theorem sv_dupA {a : Nat} (hM : L y = some M) (hd : decode M.1.2.1 pc = .ok (.dup, 1)) (hp : pc + 1 = pc') (k : sv_T X cs L sh F Q y pc' lv (.ref a :: .ref a :: st) S) : sv_T X cs L sh F Q y pc lv (.ref a :: st) S := sv_pure hM hd rfl hp k
theorem sv_popI {x : Int} (hM : L y = some M) (hd : decode M.1.2.1 pc = .ok (.pop, 1)) (hp : pc + 1 = pc') (k : sv_T X cs L sh F Q y pc' lv st S) : sv_T X cs L sh F Q y pc lv (sv_I x :: st) S := sv_pure hM hd rfl hp k
theorem sv_dup2 {x : Int} {a : Nat} (hM : L y = some M) (hd : decode M.1.2.1 pc = .ok (.dup2, 1)) (hp : pc + 1 = pc') (k : sv_T X cs L sh F Q y pc' lv (sv_I x :: .ref a :: sv_I x :: .ref a :: st) S) : sv_T X cs L sh F Q y pc lv (sv_I x :: .ref a :: st) S := sv_pure hM hd rfl hp k
/-- an operation whose exact result isn't told: some int -/
theorem sv_anyI {as : List Value} {x : Int32} (hM : L y = some M) (hd : decode M.1.2.1 pc = .ok (ins, len)) (h : ev_pure M.1.2.2.1 lv ins len as = some (lv, .int x :: st)) (hp : pc + len = pc') (k : ∀ r, sv_R r → x.toInt = r → sv_T X cs L sh F Q y pc' lv (sv_I r :: st) S) : sv_T X cs L sh F Q y pc lv as S := sv_pure hM hd h hp (by
  have h1 := k x.toInt ⟨by have := x.le_toInt; omega, by have := x.toInt_lt; omega⟩ rfl
  rw [sv_I, Int32.ofInt_toInt] at h1
  exact h1)
theorem sv_anyL {as : List Value} {x : Int64} (hM : L y = some M) (hd : decode M.1.2.1 pc = .ok (ins, len)) (h : ev_pure M.1.2.2.1 lv ins len as = some (lv, .long x :: st)) (hp : pc + len = pc') (k : ∀ r, sv_RL r → x.toInt = r → sv_T X cs L sh F Q y pc' lv (sv_L r :: st) S) : sv_T X cs L sh F Q y pc lv as S := sv_pure hM hd h hp (by
  have h1 := k x.toInt ⟨by have := x.le_toInt; omega, by have := x.toInt_lt; omega⟩ rfl
  rw [sv_L, Int64.ofInt_toInt] at h1
  exact h1)
theorem sv_goto {off : Int} (hM : L y = some M) (hd : decode M.1.2.1 pc = .ok (.goto off, 3)) (hp : (pc : Int) + off = (pc' : Int)) (k : sv_T X cs L sh F Q y pc' lv st S) : sv_T X cs L sh F Q y pc lv st S := sv_jump hM hd rfl (by show (if ev_ok pc off = true then some (ev_to pc off, st) else none) = _; rw [if_pos (by unfold ev_ok; rw [hp]; exact decide_eq_true (Int.natCast_nonneg _))]; unfold ev_to; rw [hp, Int.toNat_natCast]) k
theorem sv_brp {off : Int} {b : Bool} {t : Nat} (hp : (pc : Int) + off = (t : Int)) : ev_br pc off b st = some (if b = true then t else pc + 3, st) := by
  unfold ev_br ev_ok ev_to
  rw [hp, if_pos (decide_eq_true (Int.natCast_nonneg _)), Int.toNat_natCast]

theorem sv_icmp_eq {x z : Int} {off : Int} {t : Nat} (hM : L y = some M) (hd : decode M.1.2.1 pc = .ok (.if_icmp .eq off, 3)) (hx : sv_R x) (hz : sv_R z) (ht : (pc : Int) + off = (t : Int)) (hp : pc + 3 = pc') (k1 : x = z → sv_T X cs L sh F Q y t lv st S) (k2 : ¬ (x = z) → sv_T X cs L sh F Q y pc' lv st S) : sv_T X cs L sh F Q y pc lv (sv_I z :: sv_I x :: st) S := by
  have e := sv_Ieq hx hz
  by_cases hc : x = z
  · exact sv_jump hM hd rfl (by show ev_br pc off (decide (Int32.ofInt x = Int32.ofInt z)) st = _; rw [sv_brp ht]; rw [if_pos (decide_eq_true (by first | exact e.mpr hc | exact fun q => hc (e.mp q)))]) (k1 hc)
  · exact sv_jump hM hd rfl (by show ev_br pc off (decide (Int32.ofInt x = Int32.ofInt z)) st = _; rw [sv_brp ht]; rw [if_neg (by intro q; have q := of_decide_eq_true q; first | exact hc (e.mp q) | exact hc (fun q2 => q (e.mpr q2)))]; rw [hp]) (k2 hc)
theorem sv_cond_eq {x : Int} {off : Int} {t : Nat} (hM : L y = some M) (hd : decode M.1.2.1 pc = .ok (.ifCond .eq off, 3)) (hx : sv_R x) (ht : (pc : Int) + off = (t : Int)) (hp : pc + 3 = pc') (k1 : x = 0 → sv_T X cs L sh F Q y t lv st S) (k2 : ¬ (x = 0) → sv_T X cs L sh F Q y pc' lv st S) : sv_T X cs L sh F Q y pc lv (sv_I x :: st) S := by
  have hz : sv_R 0 := ⟨by decide, by decide⟩; have e := sv_Ieq hx hz
  by_cases hc : x = 0
  · exact sv_jump hM hd rfl (by show ev_br pc off (decide (Int32.ofInt x = (0 : Int32))) st = _; rw [sv_brp ht]; rw [if_pos (decide_eq_true (by first | exact e.mpr hc | exact fun q => hc (e.mp q)))]) (k1 hc)
  · exact sv_jump hM hd rfl (by show ev_br pc off (decide (Int32.ofInt x = (0 : Int32))) st = _; rw [sv_brp ht]; rw [if_neg (by intro q; have q := of_decide_eq_true q; first | exact hc (e.mp q) | exact hc (fun q2 => q (e.mpr q2)))]; rw [hp]) (k2 hc)
theorem sv_icmp_ne {x z : Int} {off : Int} {t : Nat} (hM : L y = some M) (hd : decode M.1.2.1 pc = .ok (.if_icmp .ne off, 3)) (hx : sv_R x) (hz : sv_R z) (ht : (pc : Int) + off = (t : Int)) (hp : pc + 3 = pc') (k1 : ¬ x = z → sv_T X cs L sh F Q y t lv st S) (k2 : ¬ (¬ x = z) → sv_T X cs L sh F Q y pc' lv st S) : sv_T X cs L sh F Q y pc lv (sv_I z :: sv_I x :: st) S := by
  have e := sv_Ieq hx hz
  by_cases hc : ¬ x = z
  · exact sv_jump hM hd rfl (by show ev_br pc off (decide (¬ Int32.ofInt x = Int32.ofInt z)) st = _; rw [sv_brp ht]; rw [if_pos (decide_eq_true (by first | exact e.mpr hc | exact fun q => hc (e.mp q)))]) (k1 hc)
  · exact sv_jump hM hd rfl (by show ev_br pc off (decide (¬ Int32.ofInt x = Int32.ofInt z)) st = _; rw [sv_brp ht]; rw [if_neg (by intro q; have q := of_decide_eq_true q; first | exact hc (e.mp q) | exact hc (fun q2 => q (e.mpr q2)))]; rw [hp]) (k2 hc)
theorem sv_cond_ne {x : Int} {off : Int} {t : Nat} (hM : L y = some M) (hd : decode M.1.2.1 pc = .ok (.ifCond .ne off, 3)) (hx : sv_R x) (ht : (pc : Int) + off = (t : Int)) (hp : pc + 3 = pc') (k1 : ¬ x = 0 → sv_T X cs L sh F Q y t lv st S) (k2 : ¬ (¬ x = 0) → sv_T X cs L sh F Q y pc' lv st S) : sv_T X cs L sh F Q y pc lv (sv_I x :: st) S := by
  have hz : sv_R 0 := ⟨by decide, by decide⟩; have e := sv_Ieq hx hz
  by_cases hc : ¬ x = 0
  · exact sv_jump hM hd rfl (by show ev_br pc off (decide (¬ Int32.ofInt x = (0 : Int32))) st = _; rw [sv_brp ht]; rw [if_pos (decide_eq_true (by first | exact e.mpr hc | exact fun q => hc (e.mp q)))]) (k1 hc)
  · exact sv_jump hM hd rfl (by show ev_br pc off (decide (¬ Int32.ofInt x = (0 : Int32))) st = _; rw [sv_brp ht]; rw [if_neg (by intro q; have q := of_decide_eq_true q; first | exact hc (e.mp q) | exact hc (fun q2 => q (e.mpr q2)))]; rw [hp]) (k2 hc)
theorem sv_icmp_lt {x z : Int} {off : Int} {t : Nat} (hM : L y = some M) (hd : decode M.1.2.1 pc = .ok (.if_icmp .lt off, 3)) (hx : sv_R x) (hz : sv_R z) (ht : (pc : Int) + off = (t : Int)) (hp : pc + 3 = pc') (k1 : x < z → sv_T X cs L sh F Q y t lv st S) (k2 : ¬ (x < z) → sv_T X cs L sh F Q y pc' lv st S) : sv_T X cs L sh F Q y pc lv (sv_I z :: sv_I x :: st) S := by
  have e := sv_Ilt hx hz
  by_cases hc : x < z
  · exact sv_jump hM hd rfl (by show ev_br pc off (decide (Int32.ofInt x < Int32.ofInt z)) st = _; rw [sv_brp ht]; rw [if_pos (decide_eq_true (by first | exact e.mpr hc | exact fun q => hc (e.mp q)))]) (k1 hc)
  · exact sv_jump hM hd rfl (by show ev_br pc off (decide (Int32.ofInt x < Int32.ofInt z)) st = _; rw [sv_brp ht]; rw [if_neg (by intro q; have q := of_decide_eq_true q; first | exact hc (e.mp q) | exact hc (fun q2 => q (e.mpr q2)))]; rw [hp]) (k2 hc)
theorem sv_cond_lt {x : Int} {off : Int} {t : Nat} (hM : L y = some M) (hd : decode M.1.2.1 pc = .ok (.ifCond .lt off, 3)) (hx : sv_R x) (ht : (pc : Int) + off = (t : Int)) (hp : pc + 3 = pc') (k1 : x < 0 → sv_T X cs L sh F Q y t lv st S) (k2 : ¬ (x < 0) → sv_T X cs L sh F Q y pc' lv st S) : sv_T X cs L sh F Q y pc lv (sv_I x :: st) S := by
  have hz : sv_R 0 := ⟨by decide, by decide⟩; have e := sv_Ilt hx hz
  by_cases hc : x < 0
  · exact sv_jump hM hd rfl (by show ev_br pc off (decide (Int32.ofInt x < (0 : Int32))) st = _; rw [sv_brp ht]; rw [if_pos (decide_eq_true (by first | exact e.mpr hc | exact fun q => hc (e.mp q)))]) (k1 hc)
  · exact sv_jump hM hd rfl (by show ev_br pc off (decide (Int32.ofInt x < (0 : Int32))) st = _; rw [sv_brp ht]; rw [if_neg (by intro q; have q := of_decide_eq_true q; first | exact hc (e.mp q) | exact hc (fun q2 => q (e.mpr q2)))]; rw [hp]) (k2 hc)
theorem sv_icmp_ge {x z : Int} {off : Int} {t : Nat} (hM : L y = some M) (hd : decode M.1.2.1 pc = .ok (.if_icmp .ge off, 3)) (hx : sv_R x) (hz : sv_R z) (ht : (pc : Int) + off = (t : Int)) (hp : pc + 3 = pc') (k1 : z ≤ x → sv_T X cs L sh F Q y t lv st S) (k2 : ¬ (z ≤ x) → sv_T X cs L sh F Q y pc' lv st S) : sv_T X cs L sh F Q y pc lv (sv_I z :: sv_I x :: st) S := by
  have e := sv_Ile hz hx
  by_cases hc : z ≤ x
  · exact sv_jump hM hd rfl (by show ev_br pc off (decide (Int32.ofInt z ≤ Int32.ofInt x)) st = _; rw [sv_brp ht]; rw [if_pos (decide_eq_true (by first | exact e.mpr hc | exact fun q => hc (e.mp q)))]) (k1 hc)
  · exact sv_jump hM hd rfl (by show ev_br pc off (decide (Int32.ofInt z ≤ Int32.ofInt x)) st = _; rw [sv_brp ht]; rw [if_neg (by intro q; have q := of_decide_eq_true q; first | exact hc (e.mp q) | exact hc (fun q2 => q (e.mpr q2)))]; rw [hp]) (k2 hc)
theorem sv_cond_ge {x : Int} {off : Int} {t : Nat} (hM : L y = some M) (hd : decode M.1.2.1 pc = .ok (.ifCond .ge off, 3)) (hx : sv_R x) (ht : (pc : Int) + off = (t : Int)) (hp : pc + 3 = pc') (k1 : 0 ≤ x → sv_T X cs L sh F Q y t lv st S) (k2 : ¬ (0 ≤ x) → sv_T X cs L sh F Q y pc' lv st S) : sv_T X cs L sh F Q y pc lv (sv_I x :: st) S := by
  have hz : sv_R 0 := ⟨by decide, by decide⟩; have e := sv_Ile hz hx
  by_cases hc : 0 ≤ x
  · exact sv_jump hM hd rfl (by show ev_br pc off (decide ((0 : Int32) ≤ Int32.ofInt x)) st = _; rw [sv_brp ht]; rw [if_pos (decide_eq_true (by first | exact e.mpr hc | exact fun q => hc (e.mp q)))]) (k1 hc)
  · exact sv_jump hM hd rfl (by show ev_br pc off (decide ((0 : Int32) ≤ Int32.ofInt x)) st = _; rw [sv_brp ht]; rw [if_neg (by intro q; have q := of_decide_eq_true q; first | exact hc (e.mp q) | exact hc (fun q2 => q (e.mpr q2)))]; rw [hp]) (k2 hc)
theorem sv_icmp_gt {x z : Int} {off : Int} {t : Nat} (hM : L y = some M) (hd : decode M.1.2.1 pc = .ok (.if_icmp .gt off, 3)) (hx : sv_R x) (hz : sv_R z) (ht : (pc : Int) + off = (t : Int)) (hp : pc + 3 = pc') (k1 : z < x → sv_T X cs L sh F Q y t lv st S) (k2 : ¬ (z < x) → sv_T X cs L sh F Q y pc' lv st S) : sv_T X cs L sh F Q y pc lv (sv_I z :: sv_I x :: st) S := by
  have e := sv_Ilt hz hx
  by_cases hc : z < x
  · exact sv_jump hM hd rfl (by show ev_br pc off (decide (Int32.ofInt z < Int32.ofInt x)) st = _; rw [sv_brp ht]; rw [if_pos (decide_eq_true (by first | exact e.mpr hc | exact fun q => hc (e.mp q)))]) (k1 hc)
  · exact sv_jump hM hd rfl (by show ev_br pc off (decide (Int32.ofInt z < Int32.ofInt x)) st = _; rw [sv_brp ht]; rw [if_neg (by intro q; have q := of_decide_eq_true q; first | exact hc (e.mp q) | exact hc (fun q2 => q (e.mpr q2)))]; rw [hp]) (k2 hc)
theorem sv_cond_gt {x : Int} {off : Int} {t : Nat} (hM : L y = some M) (hd : decode M.1.2.1 pc = .ok (.ifCond .gt off, 3)) (hx : sv_R x) (ht : (pc : Int) + off = (t : Int)) (hp : pc + 3 = pc') (k1 : 0 < x → sv_T X cs L sh F Q y t lv st S) (k2 : ¬ (0 < x) → sv_T X cs L sh F Q y pc' lv st S) : sv_T X cs L sh F Q y pc lv (sv_I x :: st) S := by
  have hz : sv_R 0 := ⟨by decide, by decide⟩; have e := sv_Ilt hz hx
  by_cases hc : 0 < x
  · exact sv_jump hM hd rfl (by show ev_br pc off (decide ((0 : Int32) < Int32.ofInt x)) st = _; rw [sv_brp ht]; rw [if_pos (decide_eq_true (by first | exact e.mpr hc | exact fun q => hc (e.mp q)))]) (k1 hc)
  · exact sv_jump hM hd rfl (by show ev_br pc off (decide ((0 : Int32) < Int32.ofInt x)) st = _; rw [sv_brp ht]; rw [if_neg (by intro q; have q := of_decide_eq_true q; first | exact hc (e.mp q) | exact hc (fun q2 => q (e.mpr q2)))]; rw [hp]) (k2 hc)
theorem sv_icmp_le {x z : Int} {off : Int} {t : Nat} (hM : L y = some M) (hd : decode M.1.2.1 pc = .ok (.if_icmp .le off, 3)) (hx : sv_R x) (hz : sv_R z) (ht : (pc : Int) + off = (t : Int)) (hp : pc + 3 = pc') (k1 : x ≤ z → sv_T X cs L sh F Q y t lv st S) (k2 : ¬ (x ≤ z) → sv_T X cs L sh F Q y pc' lv st S) : sv_T X cs L sh F Q y pc lv (sv_I z :: sv_I x :: st) S := by
  have e := sv_Ile hx hz
  by_cases hc : x ≤ z
  · exact sv_jump hM hd rfl (by show ev_br pc off (decide (Int32.ofInt x ≤ Int32.ofInt z)) st = _; rw [sv_brp ht]; rw [if_pos (decide_eq_true (by first | exact e.mpr hc | exact fun q => hc (e.mp q)))]) (k1 hc)
  · exact sv_jump hM hd rfl (by show ev_br pc off (decide (Int32.ofInt x ≤ Int32.ofInt z)) st = _; rw [sv_brp ht]; rw [if_neg (by intro q; have q := of_decide_eq_true q; first | exact hc (e.mp q) | exact hc (fun q2 => q (e.mpr q2)))]; rw [hp]) (k2 hc)
theorem sv_cond_le {x : Int} {off : Int} {t : Nat} (hM : L y = some M) (hd : decode M.1.2.1 pc = .ok (.ifCond .le off, 3)) (hx : sv_R x) (ht : (pc : Int) + off = (t : Int)) (hp : pc + 3 = pc') (k1 : x ≤ 0 → sv_T X cs L sh F Q y t lv st S) (k2 : ¬ (x ≤ 0) → sv_T X cs L sh F Q y pc' lv st S) : sv_T X cs L sh F Q y pc lv (sv_I x :: st) S := by
  have hz : sv_R 0 := ⟨by decide, by decide⟩; have e := sv_Ile hx hz
  by_cases hc : x ≤ 0
  · exact sv_jump hM hd rfl (by show ev_br pc off (decide (Int32.ofInt x ≤ (0 : Int32))) st = _; rw [sv_brp ht]; rw [if_pos (decide_eq_true (by first | exact e.mpr hc | exact fun q => hc (e.mp q)))]) (k1 hc)
  · exact sv_jump hM hd rfl (by show ev_br pc off (decide (Int32.ofInt x ≤ (0 : Int32))) st = _; rw [sv_brp ht]; rw [if_neg (by intro q; have q := of_decide_eq_true q; first | exact hc (e.mp q) | exact hc (fun q2 => q (e.mpr q2)))]; rw [hp]) (k2 hc)
theorem sv_getI {a ci k j i : Nat} {fs : List sv_F} (hM : L y = some M) (hd : decode M.1.2.1 pc = .ok (.getfield i, 3)) (hf : M.2.1 i = some (ci, k)) (hs : (sh S)[a]? = some (.inr (ci, fs))) (hk : ∀ S : sv_S, fs[k]?.map (sv_fv S a k) = some (sv_I (S j 0))) (hp : pc + 3 = pc') {x : Int} (hx : S j 0 = x) (kk : sv_T X cs L sh F Q y pc' lv (sv_I x :: st) S) : sv_T X cs L sh F Q y pc lv (.ref a :: st) S := by
  subst hx
  exact
  sv_look hM hd rfl rfl (by
    show (match M.2.1 i, (sv_E (sh S) S)[a]? with | some (ci, k), some (.inr (ci', fs)) => if ci' = ci then (fs[k]?).map (fun v => v :: st) else none | _, _ => none) = _
    rw [hf, sv_E_at hs]
    simp only [sv_x, if_pos, List.getElem?_mapIdx, hk S, Option.map_some]) hp kk
theorem sv_getL {a ci k j i : Nat} {fs : List sv_F} (hM : L y = some M) (hd : decode M.1.2.1 pc = .ok (.getfield i, 3)) (hf : M.2.1 i = some (ci, k)) (hs : (sh S)[a]? = some (.inr (ci, fs))) (hk : ∀ S : sv_S, fs[k]?.map (sv_fv S a k) = some (sv_L (S j 0))) (hp : pc + 3 = pc') {x : Int} (hx : S j 0 = x) (kk : sv_T X cs L sh F Q y pc' lv (sv_L x :: st) S) : sv_T X cs L sh F Q y pc lv (.ref a :: st) S := by
  subst hx
  exact
  sv_look hM hd rfl rfl (by
    show (match M.2.1 i, (sv_E (sh S) S)[a]? with | some (ci, k), some (.inr (ci', fs)) => if ci' = ci then (fs[k]?).map (fun v => v :: st) else none | _, _ => none) = _
    rw [hf, sv_E_at hs]
    simp only [sv_x, if_pos, List.getElem?_mapIdx, hk S, Option.map_some]) hp kk
theorem sv_getA {a ci k j i : Nat} {fs : List sv_F} (hM : L y = some M) (hd : decode M.1.2.1 pc = .ok (.getfield i, 3)) (hf : M.2.1 i = some (ci, k)) (hs : (sh S)[a]? = some (.inr (ci, fs))) (hk : ∀ S : sv_S, fs[k]?.map (sv_fv S a k) = some (.ref j)) (hp : pc + 3 = pc') (kk : sv_T X cs L sh F Q y pc' lv (.ref j :: st) S) : sv_T X cs L sh F Q y pc lv (.ref a :: st) S :=
  sv_look hM hd rfl rfl (by
    show (match M.2.1 i, (sv_E (sh S) S)[a]? with | some (ci, k), some (.inr (ci', fs)) => if ci' = ci then (fs[k]?).map (fun v => v :: st) else none | _, _ => none) = _
    rw [hf, sv_E_at hs]
    simp only [sv_x, if_pos, List.getElem?_mapIdx, hk S, Option.map_some]) hp kk
theorem sv_putI {a ci k j i : Nat} {fs : List sv_F} {x : Int} {ty : FieldType} (hX : sv_X sh cs) (hM : L y = some M) (hd : decode M.1.2.1 pc = .ok (.putfield i, 3)) (hf : M.2.2.1 i = some (ci, k, ty, false)) (hs : (sh S)[a]? = some (.inr (ci, fs))) (hk : fs[k]? = some (none, ty)) (hty : ty = .int ∨ ty = .boolean) (hj : 1000 * (a + 1) + k = j) (hn : narrow ty (sv_I x) = sv_I x) (hft : fits ty (sv_I x) = true) (hp : pc + 3 = pc') (kk : sv_T X cs L sh F Q y pc' lv st (sv_up S j 0 x)) : sv_T X cs L sh F Q y pc lv (sv_I x :: .ref a :: st) S := by
  subst hj
  have hl := (List.getElem?_eq_some_iff.mp hk).1
  have hgk := (hX.1 S).2 ci fs (List.mem_of_getElem? hs)
  refine sv_store hM hd rfl rfl rfl rfl (st' := st) (E' := (sv_E (sh S) S).set a (.inr (ci, (fs.mapIdx (sv_fv S a)).set k (sv_I x)))) ?_ ?_ hp kk
  · show (match M.2.2.1 i, (sv_E (sh S) S)[a]? with | some (ci, k, ty, f), some (.inr (ci', fs)) => if ci' = ci then if k < fs.length then if f = true → false = true then if narrow ty (sv_I x) = sv_I x then if fits ty (sv_I x) = true then some (st, (sv_E (sh S) S).set a (.inr (ci, fs.set k (sv_I x)))) else none else none else none else none else none | _, _ => none) = _
    rw [hf, sv_E_at hs]
    simp only [sv_x]
    rw [if_pos True.intro, if_pos (by rw [List.length_mapIdx]; exact hl), if_pos (by intro q; cases q), if_pos hn, if_pos hft]
  · obtain ⟨e1, e2⟩ := sv_XF (v := x) hX hs hl
    refine ⟨?_, e2⟩
    rw [← e1, ← sv_x_field hk hgk]
    congr 4
    rcases hty with rfl | rfl <;> simp only [sv_fv, sv_up, if_pos]
theorem sv_putL {a ci k j i : Nat} {fs : List sv_F} {x : Int} (hX : sv_X sh cs) (hM : L y = some M) (hd : decode M.1.2.1 pc = .ok (.putfield i, 3)) (hf : M.2.2.1 i = some (ci, k, .long, false)) (hs : (sh S)[a]? = some (.inr (ci, fs))) (hk : fs[k]? = some (none, .long)) (hj : 1000 * (a + 1) + k = j) (hp : pc + 3 = pc') (kk : sv_T X cs L sh F Q y pc' lv st (sv_up S j 0 x)) : sv_T X cs L sh F Q y pc lv (sv_L x :: .ref a :: st) S := by
  subst hj
  have hl := (List.getElem?_eq_some_iff.mp hk).1
  have hgk := (hX.1 S).2 ci fs (List.mem_of_getElem? hs)
  refine sv_store hM hd rfl rfl rfl rfl (st' := st) (E' := (sv_E (sh S) S).set a (.inr (ci, (fs.mapIdx (sv_fv S a)).set k (sv_L x)))) ?_ ?_ hp kk
  · show (match M.2.2.1 i, (sv_E (sh S) S)[a]? with | some (ci, k, ty, f), some (.inr (ci', fs)) => if ci' = ci then if k < fs.length then if f = true → false = true then if narrow ty (sv_L x) = sv_L x then if fits ty (sv_L x) = true then some (st, (sv_E (sh S) S).set a (.inr (ci, fs.set k (sv_L x)))) else none else none else none else none else none | _, _ => none) = _
    rw [hf, sv_E_at hs]
    simp only [sv_x]
    rw [if_pos True.intro, if_pos (by rw [List.length_mapIdx]; exact hl), if_pos (by intro q; cases q), if_pos (show narrow FieldType.long (sv_L x) = sv_L x from rfl), if_pos (show fits FieldType.long (sv_L x) = true from rfl)]
  · obtain ⟨e1, e2⟩ := sv_XF (v := x) hX hs hl
    refine ⟨?_, e2⟩
    rw [← e1, ← sv_x_field hk hgk]
    congr 4
    simp only [sv_fv, sv_up, if_pos]
theorem sv_iald {a n : Nat} {i : Int} (hM : L y = some M) (hd : decode M.1.2.1 pc = .ok (.iaload, 1)) (hs : (sh S)[a]? = some (.inl (.int, n))) (hn : n < 2147483648) (h0 : 0 ≤ i) (h1 : i < n) (hp : pc + 1 = pc') {x : Int} (hx : S a i = x) (kk : sv_T X cs L sh F Q y pc' lv (sv_I x :: st) S) : sv_T X cs L sh F Q y pc lv (sv_I i :: .ref a :: st) S := by
  subst hx
  obtain ⟨e1, e2⟩ := sv_in h0 h1 hn
  refine sv_look hM hd rfl rfl ?_ hp kk
  show (match (sv_E (sh S) S)[a]? with | some (.inl (.int, n, .inl f)) => if ev_in (Int32.ofInt i) n = true then some (Value.int (f (Int32.ofInt i).toNatClampNeg) :: st) else none | _ => none) = _
  rw [sv_E_at hs]
  simp only [sv_x, sv_av, e1, if_pos, e2]
theorem sv_lald {a n : Nat} {i : Int} (hM : L y = some M) (hd : decode M.1.2.1 pc = .ok (.laload, 1)) (hs : (sh S)[a]? = some (.inl (.long, n))) (hn : n < 2147483648) (h0 : 0 ≤ i) (h1 : i < n) (hp : pc + 1 = pc') {x : Int} (hx : S a i = x) (kk : sv_T X cs L sh F Q y pc' lv (sv_L x :: st) S) : sv_T X cs L sh F Q y pc lv (sv_I i :: .ref a :: st) S := by
  subst hx
  obtain ⟨e1, e2⟩ := sv_in h0 h1 hn
  refine sv_look hM hd rfl rfl ?_ hp kk
  show (match (sv_E (sh S) S)[a]? with | some (.inl (.long, n, .inr (.inl f))) => if ev_in (Int32.ofInt i) n = true then some (Value.long (f (Int32.ofInt i).toNatClampNeg) :: st) else none | _ => none) = _
  rw [sv_E_at hs]
  simp only [sv_x, sv_av, e1, if_pos, e2]
theorem sv_cald {a n : Nat} {i : Int} (hM : L y = some M) (hd : decode M.1.2.1 pc = .ok (.caload, 1)) (hs : (sh S)[a]? = some (.inl (.char, n))) (hn : n < 2147483648) (h0 : 0 ≤ i) (h1 : i < n) (hp : pc + 1 = pc') {x : Int} (hx : S a i = x) (kk : sv_T X cs L sh F Q y pc' lv (sv_I x :: st) S) : sv_T X cs L sh F Q y pc lv (sv_I i :: .ref a :: st) S := by
  subst hx
  obtain ⟨e1, e2⟩ := sv_in h0 h1 hn
  refine sv_look hM hd rfl rfl ?_ hp kk
  show (match (sv_E (sh S) S)[a]? with | some (.inl (.char, n, .inl f)) => if ev_in (Int32.ofInt i) n = true then some (Value.int (f (Int32.ofInt i).toNatClampNeg) :: st) else none | _ => none) = _
  rw [sv_E_at hs]
  simp only [sv_x, sv_av, e1, if_pos, e2]
theorem sv_bald {a n : Nat} {i : Int} (hM : L y = some M) (hd : decode M.1.2.1 pc = .ok (.baload, 1)) (hs : (sh S)[a]? = some (.inl (.byte, n))) (hn : n < 2147483648) (h0 : 0 ≤ i) (h1 : i < n) (hp : pc + 1 = pc') {x : Int} (hx : S a i = x) (kk : sv_T X cs L sh F Q y pc' lv (sv_I x :: st) S) : sv_T X cs L sh F Q y pc lv (sv_I i :: .ref a :: st) S := by
  subst hx
  obtain ⟨e1, e2⟩ := sv_in h0 h1 hn
  refine sv_look hM hd rfl rfl ?_ hp kk
  show (match (sv_E (sh S) S)[a]? with | some (.inl (.byte, n, .inl f)) => if ev_in (Int32.ofInt i) n = true then some (Value.int (f (Int32.ofInt i).toNatClampNeg) :: st) else none | some (.inl (.boolean, n, .inl f)) => if ev_in (Int32.ofInt i) n = true then some (Value.int (f (Int32.ofInt i).toNatClampNeg) :: st) else none | _ => none) = _
  rw [sv_E_at hs]
  simp only [sv_x, sv_av, e1, if_pos, e2]
theorem sv_zald {a n : Nat} {i : Int} (hM : L y = some M) (hd : decode M.1.2.1 pc = .ok (.baload, 1)) (hs : (sh S)[a]? = some (.inl (.boolean, n))) (hn : n < 2147483648) (h0 : 0 ≤ i) (h1 : i < n) (hp : pc + 1 = pc') {x : Int} (hx : S a i = x) (kk : sv_T X cs L sh F Q y pc' lv (sv_I x :: st) S) : sv_T X cs L sh F Q y pc lv (sv_I i :: .ref a :: st) S := by
  subst hx
  obtain ⟨e1, e2⟩ := sv_in h0 h1 hn
  refine sv_look hM hd rfl rfl ?_ hp kk
  show (match (sv_E (sh S) S)[a]? with | some (.inl (.byte, n, .inl f)) => if ev_in (Int32.ofInt i) n = true then some (Value.int (f (Int32.ofInt i).toNatClampNeg) :: st) else none | some (.inl (.boolean, n, .inl f)) => if ev_in (Int32.ofInt i) n = true then some (Value.int (f (Int32.ofInt i).toNatClampNeg) :: st) else none | _ => none) = _
  rw [sv_E_at hs]
  simp only [sv_x, sv_av, e1, if_pos, e2]
theorem sv_iast {a n : Nat} {i x : Int} (hX : sv_X sh cs) (hM : L y = some M) (hd : decode M.1.2.1 pc = .ok (.iastore, 1)) (hs : (sh S)[a]? = some (.inl (.int, n))) (hn : n < 2147483648) (h0 : 0 ≤ i) (h1 : i < n) (hp : pc + 1 = pc') (kk : sv_T X cs L sh F Q y pc' lv st (sv_up S a i x)) : sv_T X cs L sh F Q y pc lv (sv_I x :: sv_I i :: .ref a :: st) S := by
  obtain ⟨e1, e2⟩ := sv_in h0 h1 hn
  refine sv_store hM hd rfl rfl rfl rfl (st' := st) (E' := (sv_E (sh S) S).set a (sv_x (sv_up S a i x) a (.inl (.int, n)))) ?_ (sv_XA hX hs) hp kk
  show (match (sv_E (sh S) S)[a]? with | some (.inl (.int, n, .inl f)) => if ev_in (Int32.ofInt i) n = true then some (st, (sv_E (sh S) S).set a (.inl (.int, n, .inl (upd f (Int32.ofInt i).toNatClampNeg (Int32.ofInt x))))) else none | _ => none) = _
  rw [sv_E_at hs]
  simp only [sv_x, sv_av, e1, if_pos, sv_up_eq]
  congr
  funext k
  simp only [upd]
  by_cases hk : k = (Int32.ofInt i).toNatClampNeg
  · rw [if_pos hk, if_pos (by rw [hk]; exact e2)]
  · rw [if_neg hk, if_neg (by omega)]
theorem sv_last {a n : Nat} {i x : Int} (hX : sv_X sh cs) (hM : L y = some M) (hd : decode M.1.2.1 pc = .ok (.lastore, 1)) (hs : (sh S)[a]? = some (.inl (.long, n))) (hn : n < 2147483648) (h0 : 0 ≤ i) (h1 : i < n) (hp : pc + 1 = pc') (kk : sv_T X cs L sh F Q y pc' lv st (sv_up S a i x)) : sv_T X cs L sh F Q y pc lv (sv_L x :: sv_I i :: .ref a :: st) S := by
  obtain ⟨e1, e2⟩ := sv_in h0 h1 hn
  refine sv_store hM hd rfl rfl rfl rfl (st' := st) (E' := (sv_E (sh S) S).set a (sv_x (sv_up S a i x) a (.inl (.long, n)))) ?_ (sv_XA hX hs) hp kk
  show (match (sv_E (sh S) S)[a]? with | some (.inl (.long, n, .inr (.inl f))) => if ev_in (Int32.ofInt i) n = true then some (st, (sv_E (sh S) S).set a (.inl (.long, n, .inr (.inl (vp_updL f (Int32.ofInt i).toNatClampNeg (Int64.ofInt x)))))) else none | _ => none) = _
  rw [sv_E_at hs]
  simp only [sv_x, sv_av, e1, if_pos, sv_up_eq]
  congr
  funext k
  simp only [vp_updL]
  by_cases hk : k = (Int32.ofInt i).toNatClampNeg
  · rw [if_pos hk, if_pos (by rw [hk]; exact e2)]
  · rw [if_neg hk, if_neg (by omega)]
theorem sv_cast {a n : Nat} {i x : Int} {x0 : Int32} (hX : sv_X sh cs) (hM : L y = some M) (hd : decode M.1.2.1 pc = .ok (.castore, 1)) (hs : (sh S)[a]? = some (.inl (.char, n))) (hn : n < 2147483648) (h0 : 0 ≤ i) (h1 : i < n) (hx : vp_nar .char x0 = Int32.ofInt x) (hp : pc + 1 = pc') (kk : sv_T X cs L sh F Q y pc' lv st (sv_up S a i x)) : sv_T X cs L sh F Q y pc lv (.int x0 :: sv_I i :: .ref a :: st) S := by
  obtain ⟨e1, e2⟩ := sv_in h0 h1 hn
  refine sv_store hM hd rfl rfl rfl rfl (st' := st) (E' := (sv_E (sh S) S).set a (sv_x (sv_up S a i x) a (.inl (.char, n)))) ?_ (sv_XA hX hs) hp kk
  show (match (sv_E (sh S) S)[a]? with | some (.inl (.char, n, .inl f)) => if ev_in (Int32.ofInt i) n = true then some (st, (sv_E (sh S) S).set a (.inl (.char, n, .inl (upd f (Int32.ofInt i).toNatClampNeg (vp_nar .char x0))))) else none | _ => none) = _
  rw [sv_E_at hs]
  simp only [sv_x, sv_av, e1, if_pos, sv_up_eq]
  congr
  funext k
  simp only [upd]
  by_cases hk : k = (Int32.ofInt i).toNatClampNeg
  · rw [if_pos hk, if_pos (by rw [hk]; exact e2), hx]
  · rw [if_neg hk, if_neg (by omega)]
theorem sv_bast {a n : Nat} {i x : Int} {x0 : Int32} (hX : sv_X sh cs) (hM : L y = some M) (hd : decode M.1.2.1 pc = .ok (.bastore, 1)) (hs : (sh S)[a]? = some (.inl (.byte, n))) (hn : n < 2147483648) (h0 : 0 ≤ i) (h1 : i < n) (hx : vp_nar .byte x0 = Int32.ofInt x) (hp : pc + 1 = pc') (kk : sv_T X cs L sh F Q y pc' lv st (sv_up S a i x)) : sv_T X cs L sh F Q y pc lv (.int x0 :: sv_I i :: .ref a :: st) S := by
  obtain ⟨e1, e2⟩ := sv_in h0 h1 hn
  refine sv_store hM hd rfl rfl rfl rfl (st' := st) (E' := (sv_E (sh S) S).set a (sv_x (sv_up S a i x) a (.inl (.byte, n)))) ?_ (sv_XA hX hs) hp kk
  show (match (sv_E (sh S) S)[a]? with | some (.inl (.byte, n, .inl f)) => if ev_in (Int32.ofInt i) n = true then some (st, (sv_E (sh S) S).set a (.inl (.byte, n, .inl (upd f (Int32.ofInt i).toNatClampNeg (vp_nar .byte x0))))) else none | some (.inl (.boolean, n, .inl f)) => if ev_in (Int32.ofInt i) n = true then some (st, (sv_E (sh S) S).set a (.inl (.boolean, n, .inl (upd f (Int32.ofInt i).toNatClampNeg (vp_nar .boolean x0))))) else none | _ => none) = _
  rw [sv_E_at hs]
  simp only [sv_x, sv_av, e1, if_pos, sv_up_eq]
  congr
  funext k
  simp only [upd]
  by_cases hk : k = (Int32.ofInt i).toNatClampNeg
  · rw [if_pos hk, if_pos (by rw [hk]; exact e2), hx]
  · rw [if_neg hk, if_neg (by omega)]
theorem sv_zast {a n : Nat} {i x : Int} {x0 : Int32} (hX : sv_X sh cs) (hM : L y = some M) (hd : decode M.1.2.1 pc = .ok (.bastore, 1)) (hs : (sh S)[a]? = some (.inl (.boolean, n))) (hn : n < 2147483648) (h0 : 0 ≤ i) (h1 : i < n) (hx : vp_nar .boolean x0 = Int32.ofInt x) (hp : pc + 1 = pc') (kk : sv_T X cs L sh F Q y pc' lv st (sv_up S a i x)) : sv_T X cs L sh F Q y pc lv (.int x0 :: sv_I i :: .ref a :: st) S := by
  obtain ⟨e1, e2⟩ := sv_in h0 h1 hn
  refine sv_store hM hd rfl rfl rfl rfl (st' := st) (E' := (sv_E (sh S) S).set a (sv_x (sv_up S a i x) a (.inl (.boolean, n)))) ?_ (sv_XA hX hs) hp kk
  show (match (sv_E (sh S) S)[a]? with | some (.inl (.byte, n, .inl f)) => if ev_in (Int32.ofInt i) n = true then some (st, (sv_E (sh S) S).set a (.inl (.byte, n, .inl (upd f (Int32.ofInt i).toNatClampNeg (vp_nar .byte x0))))) else none | some (.inl (.boolean, n, .inl f)) => if ev_in (Int32.ofInt i) n = true then some (st, (sv_E (sh S) S).set a (.inl (.boolean, n, .inl (upd f (Int32.ofInt i).toNatClampNeg (vp_nar .boolean x0))))) else none | _ => none) = _
  rw [sv_E_at hs]
  simp only [sv_x, sv_av, e1, if_pos, sv_up_eq]
  congr
  funext k
  simp only [upd]
  by_cases hk : k = (Int32.ofInt i).toNatClampNeg
  · rw [if_pos hk, if_pos (by rw [hk]; exact e2), hx]
  · rw [if_neg hk, if_neg (by omega)]
theorem sv_iret {x : Int} {ty : FieldType} (hM : L y = some M) (hd : decode M.1.2.1 pc = .ok (.ireturn, 1)) (ht : M.1.2.2.2 = some ty) (hn : narrow ty (sv_I x) = sv_I x) (k : Q (some (sv_I x)) S) : sv_T X cs L sh F Q y pc lv [sv_I x] S := sv_ret hM hd rfl rfl rfl rfl rfl (by show (match M.1.2.2.2 with | some ty => if narrow ty (sv_I x) = sv_I x then some (some (sv_I x)) else none | none => none) = _; rw [ht]; dsimp only; rw [if_pos hn]) k
theorem sv_lret {x : Int} (hM : L y = some M) (hd : decode M.1.2.1 pc = .ok (.lreturn, 1)) (ht : M.1.2.2.2 = some .long) (k : Q (some (sv_L x)) S) : sv_T X cs L sh F Q y pc lv [sv_L x] S := sv_ret hM hd rfl rfl rfl rfl rfl (by show (if M.1.2.2.2 = some .long then some (some (sv_L x)) else none) = _; rw [if_pos ht]) k
theorem sv_vret (hM : L y = some M) (hd : decode M.1.2.1 pc = .ok (.return_, 1)) (ht : M.1.2.2.2 = none) (k : Q none S) : sv_T X cs L sh F Q y pc lv [] S := sv_ret hM hd rfl rfl rfl rfl rfl (by show (if M.1.2.2.2 = none then some none else none) = _; rw [if_pos ht]) k
theorem sv_loop {α : Type} (P : α → Prop) (μ : α → Int) (J : α → Prop) (h0 : ∀ a, P a → 0 ≤ μ a) (h : ∀ a, P a → (∀ b, P b → μ b < μ a → J b) → J a) : ∀ a, P a → J a := by
  have key : ∀ (n : Nat) (a : α), P a → μ a < n → J a := by
    intro n
    induction n with
    | zero => intro a ha hn; have := h0 a ha; omega
    | succ n ih => intro a ha hn; exact h a ha (fun b hb hlt => ih b hb (by omega))
  intro a ha
  exact key ((μ a).toNat + 1) a ha (by have := h0 a ha; omega)
theorem sv_callV {N : ev_M} {b ci n i z F' : Nat} {fs : List sv_F} {as rest : List Value} {P : Option Value → sv_S → Prop} (hM : L y = some M) (hd : decode M.1.2.1 pc = .ok (.invokevirtual i, 3)) (hi : M.2.2.2.2 i = some (some ci, z, n)) (h9 : ci ≠ 999) (hs : (sh S)[b]? = some (.inr (ci, fs))) (e1 : st.drop n = .ref b :: rest) (e2 : (st.take n).reverse = as)
    (hr : (rest.map fun v => v.category).sum ≤ 8) (hN : L z = some N) (hl : (lg_sl (.ref b :: as)).length ≤ N.1.2.2.1) (hw : N.1.2.2.1 ≤ 22) (hF : F' + 1 ≤ F) (hp : pc + 3 = pc')
    (hz : sv_T X cs L sh F' P z 0 (lv_args 0 (.ref b :: as)) [] S) (k : ∀ v S1, P v S1 → sv_T X cs L sh F Q y pc' lv (v.toList ++ rest) S1) : sv_T X cs L sh F Q y pc lv st S :=
  sv_call hM hd rfl rfl rfl rfl rfl rfl (by
    show (match M.2.2.2.2 i with | some (some ci, k, n) => (match st.drop n with | .ref b :: rest => if ci = 999 then some (k, Value.ref b :: (st.take n).reverse, rest) else (match (sv_E (sh S) S)[b]? with | some (.inr (ci', _)) => if ci' = ci then some (k, Value.ref b :: (st.take n).reverse, rest) else none | _ => none) | _ => none) | _ => none) = _
    rw [hi]
    dsimp only
    rw [e1]
    dsimp only
    rw [if_neg h9, sv_E_at hs]
    simp only [sv_x, if_pos, e2]) hr hN hl hw hF hp hz k
theorem sv_callX {z f w c d : Nat} {as rest : List Value} {v : Option Value} {S1 : sv_S} (hM : L y = some M) (hd : decode M.1.2.1 pc = .ok (ins, len)) (h0 : ev_pure M.1.2.2.1 lv ins len st = none) (h1 : ev_jump pc ins len st = none) (h2 : ev_look M.2.1 ins len st (sv_E (sh S) S) = none) (h3 : ev_const M.2.2.2.1 ins len st = none) (h4 : ev_store M.2.2.1 false ins len st (sv_E (sh S) S) = none) (h5 : ev_ret M.1.2.2.2 ins len st = none)
    (h : ev_inv M.2.2.2.2 ins len st (sv_E (sh S) S) = some (z, as, rest)) (hr : (rest.map fun v => v.category).sum ≤ 8) (hN : L z = none) (hx : ev_ext X z as (sv_E (sh S) S) = some (v, sv_E (sh S1) S1, f, w, c, d)) (hc : (cs S).1 + c = (cs S1).1) (hd2 : (cs S).2 + d = (cs S1).2) (hF : f + 1 ≤ F) (hw : w ≤ 41 * F) (hp : pc + 3 = pc')
    (k : sv_T X cs L sh F Q y pc' lv (v.toList ++ rest) S1) : sv_T X cs L sh F Q y pc lv st S := by
  subst hp
  obtain ⟨n2, v2, S2, f2, w2, c2, d2, k1, k2, k3, k5, k6, k4⟩ := k
  refine ⟨n2 + 1, v2, S2, max (f + 1) f2, max w w2, c + c2, d + d2, ?_, by omega, by omega, by omega, by omega, k4⟩
  rw [ev_run, hM]; dsimp only; rw [hd]; dsimp only; rw [h0]; dsimp only; rw [h1]; dsimp only; rw [h2]; dsimp only; rw [h3]; dsimp only; rw [h4]; dsimp only; rw [h5]; dsimp only; rw [h]; dsimp only
  rw [if_pos hr, hN]; dsimp only
  rw [hx]; dsimp only
  rw [k1]
theorem sv_charAt {b i : Nat} {x r : Int} {bs : List Int32} {rest : List Value} (hM : L y = some M) (hd : decode M.1.2.1 pc = .ok (.invokevirtual i, 3)) (hi : M.2.2.2.2 i = some (some 999, 1000, 1)) (hb : X b = some bs) (hN : L 1000 = none) (h0 : 0 ≤ x) (h1 : x < bs.length) (hn : bs.length < 2147483648) (hr : (rest.map fun v => v.category).sum ≤ 8) (hF : 4 ≤ F) (hp : pc + 3 = pc')
    (hx : (bs.getD x.toNat 0).toInt = r) (k : sv_T X cs L sh F Q y pc' lv (sv_I r :: rest) S) : sv_T X cs L sh F Q y pc lv (sv_I x :: .ref b :: rest) S := by
  obtain ⟨e1, e2⟩ := sv_in h0 h1 hn
  refine sv_callX (S1 := S) (v := some (sv_I r)) (f := 3) (w := 100) (c := 0) (d := 0) hM hd rfl rfl rfl rfl rfl rfl (z := 1000) (as := [.ref b, sv_I x]) (rest := rest) ?_ hr hN ?_ rfl rfl hF (by omega) hp k
  · exact ev_inv_str hi rfl
  · show (match X b with | some bs => if ev_in (Int32.ofInt x) bs.length = true then some (some (Value.int (bs.getD (Int32.ofInt x).toNatClampNeg 0)), sv_E (sh S) S, 3, 100, 0, 0) else none | none => none) = _
    rw [hb]
    dsimp only
    rw [if_pos e1]
    have e3 : (Int32.ofInt x).toNatClampNeg = x.toNat := by omega
    rw [e3, ← hx, sv_I, Int32.ofInt_toInt]
theorem sv_strlen {b i : Nat} {r : Int} {bs : List Int32} {rest : List Value} (hM : L y = some M) (hd : decode M.1.2.1 pc = .ok (.invokevirtual i, 3)) (hi : M.2.2.2.2 i = some (some 999, 1001, 0)) (hb : X b = some bs) (hN : L 1001 = none) (hr : (rest.map fun v => v.category).sum ≤ 8) (hF : 4 ≤ F) (hp : pc + 3 = pc')
    (hx : (bs.length : Int) = r) (k : sv_T X cs L sh F Q y pc' lv (sv_I r :: rest) S) : sv_T X cs L sh F Q y pc lv (.ref b :: rest) S := by
  refine sv_callX (S1 := S) (v := some (sv_I r)) (f := 1) (w := 50) (c := 0) (d := 0) hM hd rfl rfl rfl rfl rfl rfl (z := 1001) (as := [.ref b]) (rest := rest) ?_ hr hN ?_ rfl rfl (by omega) (by omega) hp k
  · exact ev_inv_str hi rfl
  · show (match X b with | some bs => some (some (Value.int (Int32.ofNat bs.length)), sv_E (sh S) S, 1, 50, 0, 0) | none => none) = _
    rw [hb, ← hx]
    dsimp only
    rw [sv_I, ← Int32.ofInt_eq_ofNat]
theorem sv_bitcount {i : Nat} {x : Int} {rest : List Value} (hM : L y = some M) (hd : decode M.1.2.1 pc = .ok (.invokestatic i, 3)) (hi : M.2.2.2.2 i = some (none, 1002, 1)) (hN : L 1002 = none) (hr : (rest.map fun v => v.category).sum ≤ 8) (hF : 2 ≤ F) (hp : pc + 3 = pc')
    (k : ∀ r, (0 ≤ r ∧ r ≤ 64) → sv_T X cs L sh F Q y pc' lv (sv_I r :: rest) S) : sv_T X cs L sh F Q y pc lv (sv_L x :: rest) S := by
  have hl : ((List.range 64).filter (fun k => (Int64.ofInt x).toBitVec.getLsbD k)).length ≤ 64 := Nat.le_trans (List.length_filter_le _ _) (by rw [List.length_range]; exact Nat.le_refl _)
  refine sv_callX (S1 := S) (v := some (sv_I (((List.range 64).filter (fun k => (Int64.ofInt x).toBitVec.getLsbD k)).length : Int))) (f := 0) (w := 50) (c := 0) (d := 0) hM hd rfl rfl rfl rfl rfl rfl (z := 1002) (as := [sv_L x]) (rest := rest) ?_ hr hN ?_ rfl rfl (by omega) (by omega) hp (k _ ⟨by omega, by omega⟩)
  · show (match M.2.2.2.2 i with | some (none, k, n) => if n ≤ (sv_L x :: rest).length then some (k, ((sv_L x :: rest).take n).reverse, (sv_L x :: rest).drop n) else none | _ => none) = _
    rw [hi]
    dsimp only
    rw [if_pos (by simp)]
    rfl
  · show some (some (Value.int (ev_bc (Int64.ofInt x))), sv_E (sh S) S, 0, 50, 0, 0) = _
    unfold ev_bc
    rw [sv_I, ← Int32.ofInt_eq_ofNat]
theorem sv_callS {N : ev_M} {n i z F' : Nat} {as rest : List Value} {P : Option Value → sv_S → Prop} (hM : L y = some M) (hd : decode M.1.2.1 pc = .ok (.invokestatic i, 3)) (hi : M.2.2.2.2 i = some (none, z, n)) (e0 : n ≤ st.length) (e1 : st.drop n = rest) (e2 : (st.take n).reverse = as)
    (hr : (rest.map fun v => v.category).sum ≤ 8) (hN : L z = some N) (hl : (lg_sl as).length ≤ N.1.2.2.1) (hw : N.1.2.2.1 ≤ 22) (hF : F' + 1 ≤ F) (hp : pc + 3 = pc')
    (hz : sv_T X cs L sh F' P z 0 (lv_args 0 as) [] S) (k : ∀ v S1, P v S1 → sv_T X cs L sh F Q y pc' lv (v.toList ++ rest) S1) : sv_T X cs L sh F Q y pc lv st S :=
  sv_call hM hd rfl rfl rfl rfl rfl rfl (by
    show (match M.2.2.2.2 i with | some (none, k, n) => if n ≤ st.length then some (k, (st.take n).reverse, st.drop n) else none | _ => none) = _
    rw [hi]
    dsimp only
    rw [if_pos e0, e1, e2]) hr hN hl hw hF hp hz k
end SVT
/-! more locals do no harm -/
def sv_Sub (lv lv2 : List (Nat × Value)) : Prop := ∀ q ∈ lv, ev_ld lv2 q.1 = some q.2
theorem sv_Sub.ld {lv lv2 : List (Nat × Value)} {k : Nat} {v : Value} (h : sv_Sub lv lv2) (hv : ev_ld lv k = some v) : ev_ld lv2 k = some v := by
  unfold ev_ld at hv
  rw [Option.map_eq_some_iff] at hv
  obtain ⟨q, hq, rfl⟩ := hv
  have h1 := List.find?_some hq
  have h2 := h q (List.mem_of_find?_eq_some hq)
  rw [eq_of_beq h1] at h2
  exact h2
theorem sv_ins_eq {i : Nat} {v : Value} : ∀ {l : List (Nat × Value)}, (∀ q ∈ l, q.1 ≠ i) → ev_ld (ev_ins i v l) i = some v
  | [], _ => by simp [ev_ins, ev_ld]
  | q :: l, h => by
    unfold ev_ins
    split
    · simp [ev_ld]
    · have h1 := sv_ins_eq (v := v) (fun q hq => h q (List.mem_cons_of_mem _ hq))
      have h2 := h q List.mem_cons_self
      unfold ev_ld at h1 ⊢
      rw [List.find?_cons_of_neg (by simpa using h2)]
      exact h1
theorem sv_ins_ne {i k : Nat} {v : Value} (hk : k ≠ i) : ∀ {l : List (Nat × Value)}, ev_ld (ev_ins i v l) k = ev_ld l k
  | [] => by
    unfold ev_ins ev_ld
    rw [List.find?_cons_of_neg (by simpa using Ne.symm hk)]
  | q :: l => by
    unfold ev_ins
    split
    · unfold ev_ld
      rw [List.find?_cons_of_neg (by simpa using Ne.symm hk)]
    · have h1 := sv_ins_ne (v := v) hk (l := l)
      unfold ev_ld at h1 ⊢
      by_cases hq : q.1 = k
      · rw [List.find?_cons_of_pos (by simpa using hq), List.find?_cons_of_pos (by simpa using hq)]
      · rw [List.find?_cons_of_neg (by simpa using hq), List.find?_cons_of_neg (by simpa using hq)]
        exact h1
theorem sv_fil {f : Nat × Value → Bool} {k : Nat} {v : Value} : ∀ {l : List (Nat × Value)}, ev_ld l k = some v → f (k, v) = true → ev_ld (l.filter f) k = some v
  | [], h, _ => by cases h
  | q :: l, h, hf => by
    unfold ev_ld at h
    by_cases hq : q.1 = k
    · rw [List.find?_cons_of_pos (by simpa using hq)] at h
      have e : q = (k, v) := by
        cases q
        simp only [Option.map_some, Option.some.injEq] at h
        simp only at hq
        rw [hq, h]
      rw [List.filter_cons_of_pos (by rw [e]; exact hf)]
      unfold ev_ld
      rw [List.find?_cons_of_pos (by simpa using hq)]
      exact h
    · rw [List.find?_cons_of_neg (by simpa using hq)] at h
      have h1 := sv_fil (l := l) h hf
      rw [List.filter_cons]
      split
      · unfold ev_ld at h1 ⊢
        rw [List.find?_cons_of_neg (by simpa using hq)]
        exact h1
      · exact h1
theorem sv_Sub.st1 {lv lv2 : List (Nat × Value)} {i : Nat} {v : Value} (h : sv_Sub lv lv2) : sv_Sub (ev_st1 lv i v) (ev_st1 lv2 i v) := by
  intro q hq
  unfold ev_st1 at hq ⊢
  rcases List.mem_cons.mp (ev_ins_mem hq) with rfl | hq
  · refine sv_ins_eq fun q hq => ?_
    have := (List.mem_filter.mp hq).2
    simp only [Bool.and_eq_true, Bool.not_eq_true', beq_eq_false_iff_ne] at this
    exact this.1
  · obtain ⟨h1, h2⟩ := List.mem_filter.mp hq
    have h3 : q.1 ≠ i := by
      simp only [Bool.and_eq_true, Bool.not_eq_true', beq_eq_false_iff_ne] at h2
      exact h2.1
    rw [sv_ins_ne h3]
    exact sv_fil (h q h1) h2
theorem sv_Sub.st2 {lv lv2 : List (Nat × Value)} {i : Nat} {v : Value} (h : sv_Sub lv lv2) : sv_Sub (ev_st2 lv i v) (ev_st2 lv2 i v) := by
  intro q hq
  unfold ev_st2 at hq ⊢
  rcases List.mem_cons.mp (ev_ins_mem hq) with rfl | hq
  · refine sv_ins_eq fun q hq => ?_
    have := (List.mem_filter.mp hq).2
    simp only [Bool.and_eq_true, Bool.not_eq_true', beq_eq_false_iff_ne] at this
    exact this.1
  · obtain ⟨h1, h2⟩ := List.mem_filter.mp hq
    have h3 : q.1 ≠ i := by
      simp only [Bool.and_eq_true, Bool.not_eq_true', beq_eq_false_iff_ne] at h2
      exact h2.1
    rw [sv_ins_ne h3]
    exact sv_fil (h q h1) h2
set_option maxHeartbeats 4000000 in
theorem sv_Sub.pure {lv lv2 lv' : List (Nat × Value)} {nL len : Nat} {ins : Instr} {st st' : List Value} (h : sv_Sub lv lv2) (hp : ev_pure nL lv ins len st = some (lv', st')) : ∃ lv2', ev_pure nL lv2 ins len st = some (lv2', st') ∧ sv_Sub lv' lv2' := by
  unfold ev_pure at hp
  split at hp
  case h_5 | h_6 | h_7 | h_8 | h_9 | h_10 =>
    split at hp
    · rename_i h1
      cases hp
      exact ⟨lv2, by simp only [ev_pure, h.ld h1], h⟩
    · cases hp
  case h_11 | h_12 | h_13 | h_14 =>
    split at hp
    · rename_i h1
      cases hp
      exact ⟨_, by simp only [ev_pure, if_pos h1], h.st1⟩
    · cases hp
  case h_15 | h_16 =>
    split at hp
    · rename_i h1
      cases hp
      exact ⟨_, by simp only [ev_pure, if_pos h1], h.st2⟩
    · cases hp
  case h_17 =>
    split at hp
    · rename_i h1
      split at hp
      · rename_i h2
        cases hp
        exact ⟨_, by simp only [ev_pure, h.ld h1, if_pos h2], h.st1⟩
      · cases hp
    · cases hp
  all_goals first
    | (cases hp; exact ⟨lv2, rfl, h⟩)
    | (split at hp
       · cases hp
       · rename_i h1; cases hp; exact ⟨lv2, if_neg h1, h⟩)
    | (split at hp
       · rename_i h1; cases hp; exact ⟨lv2, if_pos h1, h⟩
       · cases hp)
    | (split at hp
       · rename_i h1; cases hp; exact ⟨lv2, if_pos h1, h⟩
       · rename_i h1
         split at hp
         · split at hp
           · rename_i h2
             split at hp
             · rename_i h3
               cases hp
               exact ⟨lv2, (if_neg h1).trans ((if_pos h2).trans (if_pos h3)), h⟩
             · cases hp
           · cases hp
         · cases hp)
    | cases hp
theorem sv_ld_only {lv2 : List (Nat × Value)} {nL len : Nat} {ins : Instr} {st : List Value} {r : List (Nat × Value) × List Value} (lv : List (Nat × Value)) (h0 : ev_pure nL lv ins len st = none) (h : ev_pure nL lv2 ins len st = some r) (fl : Nat → Option (Nat × Nat)) (ck : Nat → Option Value) (fp : Nat → Option (Nat × Nat × FieldType × Bool)) (rt : Option FieldType) (iv : Nat → Option (Option Nat × Nat × Nat)) (pc : Nat) (E : List ev_C) :
    ev_jump pc ins len st = none ∧ ev_look fl ins len st E = none ∧ ev_const ck ins len st = none ∧ ev_store fp false ins len st E = none ∧ ev_ret rt ins len st = none ∧ ev_inv iv ins len st E = none := by
  unfold ev_pure at h
  split at h <;> first
    | (cases h; done)
    | exact ⟨rfl, rfl, rfl, rfl, rfl, rfl⟩
set_option maxHeartbeats 4000000 in
theorem sv_sub {X : Nat → Option (List Int32)} {L : Nat → Option ev_M} : ∀ (n y pc : Nat) (lv lv2 : List (Nat × Value)) (st : List Value) (E : List ev_C) (r : ev_R), sv_Sub lv lv2 → ev_run X L n y pc lv st E = some r → ev_run X L n y pc lv2 st E = some r := by
  intro n
  induction n with
  | zero => intro y pc lv lv2 st E r _ h; exact absurd h (by unfold ev_run; intro q; cases q)
  | succ n ih =>
    intro y pc lv lv2 st E r hS h
    unfold ev_run at h ⊢
    split at h
    · cases h
    · split at h
      · cases h
      · split at h
        · rename_i h1
          obtain ⟨lv2', e1, e2⟩ := hS.pure h1
          rw [e1]
          exact ih _ _ _ _ _ _ _ e2 h
        · rename_i h1
          cases h2 : ev_pure _ lv2 _ _ st with
          | some q =>
            obtain ⟨a1, a2, a3, a4, a5, a6⟩ := sv_ld_only lv h1 h2 _ _ _ _ _ pc E
            rw [a1] at h
            dsimp only at h
            rw [a2] at h
            dsimp only at h
            rw [a3] at h
            dsimp only at h
            rw [a4] at h
            dsimp only at h
            rw [a5] at h
            dsimp only at h
            rw [a6] at h
            cases h
          | none =>
            dsimp only
            split at h
            · exact ih _ _ _ _ _ _ _ hS h
            · split at h
              · exact ih _ _ _ _ _ _ _ hS h
              · split at h
                · exact ih _ _ _ _ _ _ _ hS h
                · split at h
                  · exact ih _ _ _ _ _ _ _ hS h
                  · split at h
                    · exact h
                    · split at h
                      · split at h
                        · rename_i hsum
                          rw [if_pos hsum]
                          split at h
                          · split at h
                            · cases h
                            · split at h
                              · cases h
                              · rename_i h3
                                rw [ih _ _ _ _ _ _ _ hS h3]
                                exact h
                          · split at h
                            · rename_i hlen
                              rw [if_pos hlen]
                              split at h
                              · cases h
                              · split at h
                                · cases h
                                · rename_i h3
                                  rw [ih _ _ _ _ _ _ _ hS h3]
                                  exact h
                            · cases h
                        · cases h
                      · cases h
theorem sv_less {X : Nat → Option (List Int32)} {cs : sv_S → Nat × Nat} {L : Nat → Option ev_M} {sh : sv_S → List sv_C} {F : Nat} {Q : Option Value → sv_S → Prop} {y pc : Nat} {lv lv2 : List (Nat × Value)} {st : List Value} {S : sv_S} (hS : sv_Sub lv lv2) (h : sv_T X cs L sh F Q y pc lv st S) : sv_T X cs L sh F Q y pc lv2 st S := by
  obtain ⟨n, v, S', f, w, c, d, h1, h2⟩ := h
  exact ⟨n, v, S', f, w, c, d, sv_sub _ _ _ _ _ _ _ _ hS h1, h2⟩
theorem sv_Sub_nil {lv2 : List (Nat × Value)} : sv_Sub [] lv2 := fun q h => by cases h
theorem sv_Sub_cons {lv lv2 : List (Nat × Value)} {k : Nat} {v : Value} (h : ev_ld lv2 k = some v) (h2 : sv_Sub lv lv2) : sv_Sub ((k, v) :: lv) lv2 := fun q hq => by
  rcases List.mem_cons.mp hq with rfl | hq
  · exact h
  · exact h2 q hq
theorem sv_Rn {x : Int} {d : Int} (h : x = d) (hd : sv_R d) : sv_R x := h ▸ hd
theorem sv_Rite {p : Prop} [Decidable p] : sv_R (if p then 1 else 0) := by split <;> exact ⟨by decide, by decide⟩
theorem sv_R01 {x : Int} (h : 0 ≤ x ∧ x ≤ 1) : sv_R x := ⟨by omega, by omega⟩
theorem sv_RB {x : Int} (h : -128 ≤ x ∧ x ≤ 127) : sv_R x := ⟨by omega, by omega⟩
theorem sv_RC {x : Int} (h : 0 ≤ x ∧ x ≤ 65535) : sv_R x := ⟨by omega, by omega⟩
theorem sv_itep {p : Prop} [Decidable p] (h : ¬ (if p then (1 : Int) else 0) = 0) : p := by by_cases hp : p; exact hp; rw [if_neg hp] at h; exact absurd rfl h
theorem sv_iten {p : Prop} [Decidable p] (h : (if p then (1 : Int) else 0) = 0) : ¬ p := by intro hp; rw [if_pos hp] at h; exact absurd h (by decide)
theorem sv_i01 {p : Prop} [Decidable p] : 0 ≤ (if p then (1 : Int) else 0) ∧ (if p then (1 : Int) else 0) ≤ 1 := by split <;> exact ⟨by decide, by decide⟩
theorem sv_nz {x : Int} (h : 0 ≤ x ∧ x ≤ 1) : narrow .boolean (sv_I x) = sv_I x := by
  have e : x = 0 ∨ x = 1 := by omega
  rcases e with rfl | rfl <;> rfl
theorem sv_fz {x : Int} (h : 0 ≤ x ∧ x ≤ 1) : fits .boolean (sv_I x) = true := by
  have e : x = 0 ∨ x = 1 := by omega
  rcases e with rfl | rfl <;> rfl
theorem sv_nnZ {x : Int} (h : 0 ≤ x ∧ x ≤ 1) : vp_nar .boolean (Int32.ofInt x) = Int32.ofInt x := by
  have e : x = 0 ∨ x = 1 := by omega
  rcases e with rfl | rfl <;> rfl
theorem sv_b2 {x : Int} : (Int32.ofInt x).toInt8.toInt32 = Int32.ofInt (x.bmod 256) := by
  rw [← Int32.toInt_inj, Int8.toInt_toInt32, Int32.toInt8_ofInt, Int8.toInt_ofInt, Int32.toInt_ofInt_of_le (by have := @Int.le_bmod x 256 (by decide); omega) (by have := @Int.bmod_lt x 256 (by decide); omega)]
theorem sv_nnB {x : Int} (h : -128 ≤ x ∧ x ≤ 127) : vp_nar .byte (Int32.ofInt x) = Int32.ofInt x := by
  show (Int32.ofInt x).toInt8.toInt32 = _
  rw [sv_b2, Int.bmod_eq_of_le (by omega) (by omega)]
theorem sv_nnC {x : Int} (h : 0 ≤ x ∧ x ≤ 65535) : vp_nar .char (Int32.ofInt x) = Int32.ofInt x := by
  show (Int32.ofInt x).toUInt32.toUInt16.toUInt32.toInt32 = _
  apply Int32.toBitVec.inj
  simp
  apply BitVec.eq_of_toNat_eq
  simp
  omega
section SVX
variable {X : Nat → Option (List Int32)} {cs : sv_S → Nat × Nat} {L : Nat → Option ev_M} {sh : sv_S → List sv_C} {F : Nat} {Q : Option Value → sv_S → Prop} {y pc pc' len : Nat} {lv lv' : List (Nat × Value)} {st st' : List Value} {S S' : sv_S} {M : ev_M} {ins : Instr}
theorem sv_nameI {e x : Int} (h : e = x) (k : sv_T X cs L sh F Q y pc lv (sv_I x :: st) S) : sv_T X cs L sh F Q y pc lv (sv_I e :: st) S := h ▸ k
theorem sv_nameL {e x : Int} (h : e = x) (k : sv_T X cs L sh F Q y pc lv (sv_L x :: st) S) : sv_T X cs L sh F Q y pc lv (sv_L e :: st) S := h ▸ k
theorem sv_i2b {x : Int} (hM : L y = some M) (hd : decode M.1.2.1 pc = .ok (.i2b, 1)) (hp : pc + 1 = pc') (k : ∀ r, (-128 ≤ r ∧ r ≤ 127) → (-128 ≤ x → x ≤ 127 → r = x) → sv_T X cs L sh F Q y pc' lv (sv_I r :: st) S) : sv_T X cs L sh F Q y pc lv (sv_I x :: st) S :=
  sv_pure hM hd (show some (lv, Value.int (Int32.ofInt x).toInt8.toInt32 :: st) = some (lv, sv_I (x.bmod 256) :: st) by rw [sv_b2]) hp (k _ ⟨by have := @Int.le_bmod x 256 (by decide); omega, by have := @Int.bmod_lt x 256 (by decide); omega⟩ (fun h1 h2 => Int.bmod_eq_of_le (by omega) (by omega)))
theorem sv_i2c {x : Int} (hM : L y = some M) (hd : decode M.1.2.1 pc = .ok (.i2c, 1)) (hx : 0 ≤ x ∧ x ≤ 65535) (hp : pc + 1 = pc') (k : sv_T X cs L sh F Q y pc' lv (sv_I x :: st) S) : sv_T X cs L sh F Q y pc lv (sv_I x :: st) S :=
  sv_pure hM hd (show some (lv, Value.int ((Int32.ofInt x).toUInt32 % 65536).toInt32 :: st) = some (lv, sv_I x :: st) by
    congr 4
    apply Int32.toBitVec.inj
    simp
    apply BitVec.eq_of_toNat_eq
    simp
    omega) hp k
theorem sv_irem {x z : Int} (hM : L y = some M) (hd : decode M.1.2.1 pc = .ok (.irem, 1)) (hx : 0 ≤ x ∧ x ≤ 2147483647) (hz : 0 < z ∧ z ≤ 2147483647) (hp : pc + 1 = pc') (k : sv_T X cs L sh F Q y pc' lv (sv_I (x % z) :: st) S) : sv_T X cs L sh F Q y pc lv (sv_I z :: sv_I x :: st) S :=
  sv_pure hM hd (show (if Int32.ofInt z = 0 then none else some (lv, Value.int (Int32.ofInt x - Int32.ofInt x / Int32.ofInt z * Int32.ofInt z) :: st)) = some (lv, sv_I (x % z) :: st) by
    rw [if_neg (by intro q; have := (sv_Ieq (x := z) (y := 0) ⟨by omega, by omega⟩ ⟨by decide, by decide⟩).mp q; omega), ← Int32.ofInt_tdiv (by have e : Int32.minValue.toInt = -2147483648 := rfl; omega) (by have e : Int32.maxValue.toInt = 2147483647 := rfl; omega) (by have e : Int32.minValue.toInt = -2147483648 := rfl; omega) (by have e : Int32.maxValue.toInt = 2147483647 := rfl; omega), ← Int32.ofInt_mul, ← Int32.ofInt_sub, Int.tdiv_eq_ediv_of_nonneg hx.1]
    have e : x - x / z * z = x % z := by rw [Int.emod_def, Int.mul_comm]
    rw [e]) hp k
theorem sv_idiv {x z : Int} (hM : L y = some M) (hd : decode M.1.2.1 pc = .ok (.idiv, 1)) (hx : 0 ≤ x ∧ x ≤ 2147483647) (hz : 0 < z ∧ z ≤ 2147483647) (hp : pc + 1 = pc') (k : sv_T X cs L sh F Q y pc' lv (sv_I (x / z) :: st) S) : sv_T X cs L sh F Q y pc lv (sv_I z :: sv_I x :: st) S :=
  sv_pure hM hd (show (if Int32.ofInt z = 0 then none else some (lv, Value.int (Int32.ofInt x / Int32.ofInt z) :: st)) = some (lv, sv_I (x / z) :: st) by
    rw [if_neg (by intro q; have := (sv_Ieq (x := z) (y := 0) ⟨by omega, by omega⟩ ⟨by decide, by decide⟩).mp q; omega), ← Int32.ofInt_tdiv (by have e : Int32.minValue.toInt = -2147483648 := rfl; omega) (by have e : Int32.maxValue.toInt = 2147483647 := rfl; omega) (by have e : Int32.minValue.toInt = -2147483648 := rfl; omega) (by have e : Int32.maxValue.toInt = 2147483647 := rfl; omega), Int.tdiv_eq_ediv_of_nonneg hx.1]) hp k
/-- x & z, z not below 0 -/
theorem sv_iand {x z : Int} (hM : L y = some M) (hd : decode M.1.2.1 pc = .ok (.iand, 1)) (hz : 0 ≤ z ∧ z ≤ 2147483647) (hp : pc + 1 = pc') (k : ∀ r, (0 ≤ r ∧ r ≤ z) → sv_T X cs L sh F Q y pc' lv (sv_I r :: st) S) : sv_T X cs L sh F Q y pc lv (sv_I z :: sv_I x :: st) S :=
  sv_anyI hM hd (x := Int32.ofInt x &&& Int32.ofInt z) rfl hp (fun r hr e => k r (by
    have e1 : (Int32.ofInt z).toBitVec.toNat = z.toNat := by
      rw [Int32.toBitVec_ofInt, BitVec.toNat_ofInt]
      omega
    have e2 : ((Int32.ofInt x).toBitVec &&& (Int32.ofInt z).toBitVec).toNat ≤ z.toNat := by
      rw [BitVec.toNat_and, e1]
      exact Nat.and_le_right
    have e3 : (Int32.ofInt x &&& Int32.ofInt z).toInt = ((Int32.ofInt x).toBitVec &&& (Int32.ofInt z).toBitVec).toInt := by
      rw [← Int32.toInt_toBitVec, Int32.toBitVec_and]
    rw [BitVec.toInt_eq_toNat_of_lt (by omega)] at e3
    omega))
end SVX
/-! compares of longs, masks, switches -/
def sv_cmp (x z : Int) : Int := if z < x then 1 else if x = z then 0 else -1
theorem sv_RLR {x : Int} (h : sv_R x) : sv_RL x := ⟨by omega, by omega⟩
theorem sv_RI (x : Int32) : sv_R x.toInt := ⟨by have := x.le_toInt; omega, by have := x.toInt_lt; omega⟩
theorem sv_Rcmp {x z : Int} : sv_R (sv_cmp x z) := by unfold sv_cmp; constructor <;> (repeat' split) <;> omega
theorem sv_cmp_eq {x z : Int} : sv_cmp x z = 0 ↔ x = z := by unfold sv_cmp; constructor <;> intro h <;> (repeat' split at h) <;> (repeat' split) <;> omega
theorem sv_cmp_ne {x z : Int} : ¬ sv_cmp x z = 0 ↔ ¬ x = z := not_congr sv_cmp_eq
theorem sv_cmp_lt {x z : Int} : sv_cmp x z < 0 ↔ x < z := by unfold sv_cmp; constructor <;> intro h <;> (repeat' split at h) <;> (repeat' split) <;> omega
theorem sv_cmp_le {x z : Int} : sv_cmp x z ≤ 0 ↔ x ≤ z := by unfold sv_cmp; constructor <;> intro h <;> (repeat' split at h) <;> (repeat' split) <;> omega
theorem sv_cmp_gt {x z : Int} : 0 < sv_cmp x z ↔ z < x := by unfold sv_cmp; constructor <;> intro h <;> (repeat' split at h) <;> (repeat' split) <;> omega
theorem sv_cmp_ge {x z : Int} : 0 ≤ sv_cmp x z ↔ z ≤ x := by unfold sv_cmp; constructor <;> intro h <;> (repeat' split at h) <;> (repeat' split) <;> omega
theorem sv_Llt {x y : Int} (hx : sv_RL x) (hy : sv_RL y) : (Int64.ofInt x < Int64.ofInt y) ↔ x < y := by rw [Int64.lt_iff_toInt_lt, sv_Li hx, sv_Li hy]
theorem sv_Leq {x y : Int} (hx : sv_RL x) (hy : sv_RL y) : (Int64.ofInt x = Int64.ofInt y) ↔ x = y := by rw [← Int64.toInt_inj, sv_Li hx, sv_Li hy]
section SVY
variable {X : Nat → Option (List Int32)} {cs : sv_S → Nat × Nat} {L : Nat → Option ev_M} {sh : sv_S → List sv_C} {F : Nat} {Q : Option Value → sv_S → Prop} {y pc pc' len : Nat} {lv lv' : List (Nat × Value)} {st st' : List Value} {S S' : sv_S} {M : ev_M} {ins : Instr}
theorem sv_lcmp {x z : Int} (hM : L y = some M) (hd : decode M.1.2.1 pc = .ok (.lcmp, 1)) (hx : sv_RL x) (hz : sv_RL z) (hp : pc + 1 = pc') (k : sv_T X cs L sh F Q y pc' lv (sv_I (sv_cmp x z) :: st) S) : sv_T X cs L sh F Q y pc lv (sv_L z :: sv_L x :: st) S :=
  sv_pure hM hd (show some (lv, Value.int (if Int64.ofInt z < Int64.ofInt x then 1 else if Int64.ofInt x = Int64.ofInt z then 0 else -1) :: st) = some (lv, sv_I (sv_cmp x z) :: st) by
    congr 4
    unfold sv_cmp
    simp only [sv_Llt hz hx, sv_Leq hx hz]
    repeat' split
    all_goals rfl) hp k
theorem sv_l2iR {x : Int} (hM : L y = some M) (hd : decode M.1.2.1 pc = .ok (.l2i, 1)) (hp : pc + 1 = pc') (k : ∀ r, sv_R r → (sv_R x → r = x) → sv_T X cs L sh F Q y pc' lv (sv_I r :: st) S) : sv_T X cs L sh F Q y pc lv (sv_L x :: st) S := by
  refine sv_l2i hM hd hp ?_
  have h := k (Int32.ofInt x).toInt (sv_RI _) (fun h => sv_Ii h)
  rw [sv_I, Int32.ofInt_toInt] at h
  exact h
theorem sv_land {x z : Int} (hM : L y = some M) (hd : decode M.1.2.1 pc = .ok (.land, 1)) (hz : 0 ≤ z ∧ z ≤ 9223372036854775807) (hp : pc + 1 = pc') (k : ∀ r, (0 ≤ r ∧ r ≤ z) → sv_T X cs L sh F Q y pc' lv (sv_L r :: st) S) : sv_T X cs L sh F Q y pc lv (sv_L z :: sv_L x :: st) S :=
  sv_anyL hM hd (x := Int64.ofInt x &&& Int64.ofInt z) rfl hp (fun r hr e => k r (by
    have e1 : (Int64.ofInt z).toBitVec.toNat = z.toNat := by
      rw [Int64.toBitVec_ofInt, BitVec.toNat_ofInt]
      omega
    have e2 : ((Int64.ofInt x).toBitVec &&& (Int64.ofInt z).toBitVec).toNat ≤ z.toNat := by
      rw [BitVec.toNat_and, e1]
      exact Nat.and_le_right
    have e3 : (Int64.ofInt x &&& Int64.ofInt z).toInt = ((Int64.ofInt x).toBitVec &&& (Int64.ofInt z).toBitVec).toInt := by
      rw [← Int64.toInt_toBitVec, Int64.toBitVec_and]
    rw [BitVec.toInt_eq_toNat_of_lt (by omega)] at e3
    omega))
theorem sv_tsw {x dflt lo hi : Int} {offs : Array Int} {t : Nat} (hM : L y = some M) (hd : decode M.1.2.1 pc = .ok (.tableswitch dflt lo hi offs, len)) (hx : sv_R x) (ht : (pc : Int) + dflt = (t : Int)) (k0 : (x < lo ∨ hi < x) → sv_T X cs L sh F Q y t lv st S)
    (k1 : ¬ (x < lo ∨ hi < x) → ∃ (off : Int) (u : Nat), offs[(x - lo).toNat]? = some off ∧ (pc : Int) + off = (u : Int) ∧ sv_T X cs L sh F Q y u lv st S) : sv_T X cs L sh F Q y pc lv (sv_I x :: st) S := by
  by_cases hc : x < lo ∨ hi < x
  · refine sv_jump hM hd rfl ?_ (k0 hc)
    simp only [ev_jump, sv_Ii hx, if_pos hc, ev_ok, ev_to, ht, Int.toNat_natCast]
    rw [if_pos (decide_eq_true (Int.natCast_nonneg _))]
  · obtain ⟨off, u, e1, e2, k⟩ := k1 hc
    refine sv_jump hM hd rfl ?_ k
    simp only [ev_jump, sv_Ii hx, if_neg hc, e1, ev_ok, ev_to, e2, Int.toNat_natCast]
    rw [if_pos (decide_eq_true (Int.natCast_nonneg _))]
theorem sv_ldc_wA {i a : Nat} (hM : L y = some M) (hd : decode M.1.2.1 pc = .ok (.ldc_w i, 3)) (hc : M.2.2.2.1 i = some (.ref a)) (hp : pc + 3 = pc') (k : sv_T X cs L sh F Q y pc' lv (.ref a :: st) S) : sv_T X cs L sh F Q y pc lv st S := sv_const hM hd rfl rfl rfl (by show (match M.2.2.2.1 i with | some (.int v) => some (Value.int v :: st) | some (.ref a) => some (Value.ref a :: st) | _ => none) = _; rw [hc]) hp k
theorem sv_ldcI (len : Nat) (op : Nat → Instr) {i : Nat} {d : Int} {v : Int32} (ho : (op = Instr.ldc_w ∧ len = 3) ∨ (op = Instr.ldc ∧ len = 2)) (hM : L y = some M) (hd : decode M.1.2.1 pc = .ok (op i, len)) (hc : M.2.2.2.1 i = some (.int v)) (hv : v = Int32.ofInt d) (hp : pc + len = pc') (k : sv_T X cs L sh F Q y pc' lv (sv_I d :: st) S) : sv_T X cs L sh F Q y pc lv st S := by
  subst hv
  rcases ho with ⟨rfl, rfl⟩ | ⟨rfl, rfl⟩
  · exact sv_const hM hd rfl rfl rfl (by show (match M.2.2.2.1 i with | some (.int v) => some (Value.int v :: st) | some (.ref a) => some (Value.ref a :: st) | _ => none) = _; rw [hc]) hp k
  · exact sv_const hM hd rfl rfl rfl (by show (match M.2.2.2.1 i with | some (.int v) => some (Value.int v :: st) | some (.ref a) => some (Value.ref a :: st) | _ => none) = _; rw [hc]) hp k
theorem sv_ldc_w {i : Nat} {d : Int} {v : Int32} (hM : L y = some M) (hd : decode M.1.2.1 pc = .ok (.ldc_w i, 3)) (hc : M.2.2.2.1 i = some (.int v)) (hv : v = Int32.ofInt d) (hp : pc + 3 = pc') (k : sv_T X cs L sh F Q y pc' lv (sv_I d :: st) S) : sv_T X cs L sh F Q y pc lv st S := sv_ldcI 3 _ (Or.inl ⟨rfl, rfl⟩) hM hd hc hv hp k
theorem sv_ldc {i : Nat} {d : Int} {v : Int32} (hM : L y = some M) (hd : decode M.1.2.1 pc = .ok (.ldc i, 2)) (hc : M.2.2.2.1 i = some (.int v)) (hv : v = Int32.ofInt d) (hp : pc + 2 = pc') (k : sv_T X cs L sh F Q y pc' lv (sv_I d :: st) S) : sv_T X cs L sh F Q y pc lv st S := sv_ldcI 2 _ (Or.inr ⟨rfl, rfl⟩) hM hd hc hv hp k
theorem sv_ldc2_w {i : Nat} {d : Int} {v : Int64} (hM : L y = some M) (hd : decode M.1.2.1 pc = .ok (.ldc2_w i, 3)) (hc : M.2.2.2.1 i = some (.long v)) (hv : v = Int64.ofInt d) (hp : pc + 3 = pc') (k : sv_T X cs L sh F Q y pc' lv (sv_L d :: st) S) : sv_T X cs L sh F Q y pc lv st S := by
  subst hv
  exact sv_const hM hd rfl rfl rfl (by show (match M.2.2.2.1 i with | some (.long v) => some (Value.long v :: st) | _ => none) = _; rw [hc]) hp k
theorem sv_getD {a ci k j i : Nat} {fs : List sv_F} {p : Nat} (hM : L y = some M) (hd : decode M.1.2.1 pc = .ok (.getfield i, 3)) (hf : M.2.1 i = some (ci, k)) (hs : (sh S)[a]? = some (.inr (ci, fs))) (hk : ∀ S : sv_S, fs[k]?.map (sv_fv S a k) = some (.ref (S j 0).toNat)) (hp : pc + 3 = pc') (hx : (S j 0).toNat = p) (kk : sv_T X cs L sh F Q y pc' lv (.ref p :: st) S) : sv_T X cs L sh F Q y pc lv (.ref a :: st) S := by
  subst hx
  refine sv_look hM hd rfl rfl ?_ hp kk
  show (match M.2.1 i, (sv_E (sh S) S)[a]? with | some (ci, k), some (.inr (ci', fs)) => if ci' = ci then (fs[k]?).map (fun v => v :: st) else none | _, _ => none) = _
  rw [hf, sv_E_at hs]
  simp only [sv_x, if_pos, List.getElem?_mapIdx, hk S, Option.map_some]
theorem sv_alen {a n : Nat} {ty : FieldType} {r : Int} (hM : L y = some M) (hd : decode M.1.2.1 pc = .ok (.arraylength, 1)) (hs : (sh S)[a]? = some (.inl (ty, n))) (hty : ty ∈ ev_tyl) (hr : (n : Int) = r) (hp : pc + 1 = pc') (kk : sv_T X cs L sh F Q y pc' lv (sv_I r :: st) S) : sv_T X cs L sh F Q y pc lv (.ref a :: st) S := by
  refine sv_look hM hd rfl rfl ?_ hp kk
  show (match (sv_E (sh S) S)[a]? with | some (.inl (ty, x)) => if ty ∈ ev_tyl then some (Value.int (Int32.ofNat x.1) :: st) else none | _ => none) = _
  rw [sv_E_at hs]
  simp only [sv_x, if_pos hty]
  have e : (sv_av S a ty n).1 = n := by unfold sv_av; split <;> rfl
  rw [e, ← hr, sv_I, Int32.ofInt_eq_ofNat]
end SVY
section SVZ
variable {X : Nat → Option (List Int32)} {cs : sv_S → Nat × Nat} {L : Nat → Option ev_M} {sh : sv_S → List sv_C} {F : Nat} {Q : Option Value → sv_S → Prop} {y pc pc' len : Nat} {lv lv' : List (Nat × Value)} {st st' : List Value} {S S' : sv_S} {M : ev_M} {ins : Instr}
/-- x & (2^k - 1) -/
theorem sv_iandm (k : Nat) {x z m : Int} (hk : k ≤ 30) (hz : z = ((2 ^ k : Nat) : Int) - 1) (hm : m = ((2 ^ k : Nat) : Int)) (hM : L y = some M) (hd : decode M.1.2.1 pc = .ok (.iand, 1)) (hp : pc + 1 = pc') (kk : sv_T X cs L sh F Q y pc' lv (sv_I (x % m) :: st) S) : sv_T X cs L sh F Q y pc lv (sv_I z :: sv_I x :: st) S := by
  refine sv_pure hM hd (show some (lv, Value.int (Int32.ofInt x &&& Int32.ofInt z) :: st) = some (lv, sv_I (x % m) :: st) from ?_) hp kk
  congr 4
  apply Int32.toBitVec.inj
  rw [Int32.toBitVec_and, Int32.toBitVec_ofInt, Int32.toBitVec_ofInt, Int32.toBitVec_ofInt]
  apply BitVec.eq_of_toNat_eq
  have hp1 : 2 ^ k ≤ 2 ^ 30 := Nat.pow_le_pow_right (by decide) hk
  have hp0 : 0 < 2 ^ k := Nat.two_pow_pos k
  have e1 : (z % ((2 ^ 32 : Nat) : Int)).toNat = 2 ^ k - 1 := by
    rw [hz, Int.emod_eq_of_lt (by omega) (by omega)]
    omega
  have hd : m ∣ ((2 ^ 32 : Nat) : Int) := by rw [hm]; exact Int.natCast_dvd_natCast.mpr (Nat.pow_dvd_pow 2 (by omega))
  have e2 : x % m = (((x % ((2 ^ 32 : Nat) : Int)).toNat % 2 ^ k : Nat) : Int) := by
    rw [Int.natCast_emod, Int.toNat_of_nonneg (Int.emod_nonneg _ (by decide)), ← hm]
    exact (Int.emod_emod_of_dvd x hd).symm
  have hm0 : (0 : Int) ≤ x % m := Int.emod_nonneg _ (by omega)
  have hm1 : x % m < m := Int.emod_lt_of_pos _ (by omega)
  rw [BitVec.toNat_and, BitVec.toNat_ofInt, BitVec.toNat_ofInt, BitVec.toNat_ofInt]
  have e3 : (x % m % ((2 ^ 32 : Nat) : Int)).toNat = (x % m).toNat := by
    rw [Int.emod_eq_of_lt hm0 (by omega)]
  rw [e3, e1, Nat.and_two_pow_sub_one_eq_mod]
  omega
end SVZ
section SVG
variable {X : Nat → Option (List Int32)} {cs : sv_S → Nat × Nat} {L : Nat → Option ev_M} {sh : sv_S → List sv_C} {F : Nat} {Q : Option Value → sv_S → Prop} {y pc : Nat} {lv : List (Nat × Value)} {st : List Value} {S : sv_S}
/-- slots from 1100001 on belong to no cell: they may be written at any time -/
theorem sv_ghost (hX : sv_X sh cs) (j : Nat) (i v : Int) (hj : 1100000 < j) (k : sv_T X cs L sh F Q y pc lv st (sv_up S j i v)) : sv_T X cs L sh F Q y pc lv st S := by
  obtain ⟨n, r, S', f, w, c, d, h1, h2, h3, h4, h5, h6⟩ := k
  obtain ⟨e1, e2⟩ := hX.2 S j i v (by omega)
  have hg := hX.1 S
  have e3 : sv_E (sh S) (sv_up S j i v) = sv_E (sh S) S := by
    unfold sv_E
    refine List.ext_getElem? fun k => ?_
    rw [List.getElem?_mapIdx, List.getElem?_mapIdx]
    cases hk : (sh S)[k]? with
    | none => rfl
    | some c' =>
      have hl := (List.getElem?_eq_some_iff.mp hk).1
      have hg1 := hg.1
      simp only [Option.map_some]
      congr 1
      exact sv_x_eq (sv_up_ne (by omega)) (fun ci fs k' hc hk' => sv_up_ne (by
        subst hc
        have := hg.2 ci fs (List.mem_of_getElem? hk)
        omega))
  rw [e1, e3] at h1
  rw [e2] at h4 h5
  exact ⟨n, r, S', f, w, c, d, h1, h2, h3, h4, h5, h6⟩
end SVG
theorem sv_Fn {n : Nat} {e : Int} (h : (n : Int) + 1 ≤ e) : n + 1 ≤ e.toNat := by omega
theorem sv_Fe {a e : Int} (h : 0 ≤ a ∧ a + 1 ≤ e) : a.toNat + 1 ≤ e.toNat := by omega
theorem sv_F4 {e : Int} (h : 4 ≤ e) : 4 ≤ e.toNat := by omega
theorem sv_ind (P : Int → Prop) (h : ∀ d : Int, 0 ≤ d → (∀ d' : Int, 0 ≤ d' → d' < d → P d') → P d) : ∀ d : Int, 0 ≤ d → P d := by
  have key : ∀ (n : Nat) (d : Int), 0 ≤ d → d < n → P d := by
    intro n
    induction n with
    | zero => intro d h0 h1; omega
    | succ n ih => intro d h0 h1; exact h d h0 (fun d' a b => ih d' a (by omega))
  intro d hd
  exact key (d.toNat + 1) d hd (by omega)
theorem sv_wadd {x z r : Int} (h : sv_R (x + z)) (e : (Int32.ofInt x + Int32.ofInt z).toInt = r) : r = x + z := by rw [← e, ← Int32.ofInt_add, sv_Ii h]
theorem sv_wsub {x z r : Int} (h : sv_R (x - z)) (e : (Int32.ofInt x - Int32.ofInt z).toInt = r) : r = x - z := by rw [← e, ← Int32.ofInt_sub, sv_Ii h]
theorem sv_wmul {x z r : Int} (h : sv_R (x * z)) (e : (Int32.ofInt x * Int32.ofInt z).toInt = r) : r = x * z := by rw [← e, ← Int32.ofInt_mul, sv_Ii h]
section SVD
variable {X : Nat → Option (List Int32)} {cs : sv_S → Nat × Nat} {L : Nat → Option ev_M} {sh : sv_S → List sv_C} {F : Nat} {Q : Option Value → sv_S → Prop} {y pc pc' : Nat} {lv : List (Nat × Value)} {st : List Value} {S : sv_S} {M : ev_M}
theorem sv_ltdiv {x z : Int} (hx : 0 ≤ x ∧ x ≤ 9223372036854775807) (hz : 0 < z ∧ z ≤ 9223372036854775807) : Int64.ofInt x / Int64.ofInt z = Int64.ofInt (x / z) := by
  rw [← Int64.ofInt_tdiv (by have e : Int64.minValue.toInt = -9223372036854775808 := rfl; omega) (by have e : Int64.maxValue.toInt = 9223372036854775807 := rfl; omega) (by have e : Int64.minValue.toInt = -9223372036854775808 := rfl; omega) (by have e : Int64.maxValue.toInt = 9223372036854775807 := rfl; omega), Int.tdiv_eq_ediv_of_nonneg hx.1]
theorem sv_ldiv {x z : Int} (hM : L y = some M) (hd : decode M.1.2.1 pc = .ok (.ldiv, 1)) (hx : 0 ≤ x ∧ x ≤ 9223372036854775807) (hz : 0 < z ∧ z ≤ 9223372036854775807) (hp : pc + 1 = pc') (k : ∀ r, (0 ≤ r ∧ r ≤ x) → (9 < r → 10 * z ≤ x) → r = x / z → sv_T X cs L sh F Q y pc' lv (sv_L r :: st) S) : sv_T X cs L sh F Q y pc lv (sv_L z :: sv_L x :: st) S :=
  sv_pure hM hd (show (if Int64.ofInt z = 0 then none else some (lv, Value.long (Int64.ofInt x / Int64.ofInt z) :: st)) = some (lv, sv_L (x / z) :: st) by
    rw [if_neg (by intro q; have := (sv_Leq (x := z) (y := 0) ⟨by omega, by omega⟩ ⟨by decide, by decide⟩).mp q; omega), sv_ltdiv hx hz]) hp (k _ ⟨Int.ediv_nonneg hx.1 (by omega), Int.ediv_le_self _ hx.1⟩ (fun h => by
      have h1 : 10 * z ≤ x / z * z := Int.mul_le_mul_of_nonneg_right (by omega) (by omega)
      have h2 : x / z * z ≤ x := Int.ediv_mul_le x (by omega)
      omega) rfl)
theorem sv_lrem {x z : Int} (hM : L y = some M) (hd : decode M.1.2.1 pc = .ok (.lrem, 1)) (hx : 0 ≤ x ∧ x ≤ 9223372036854775807) (hz : 0 < z ∧ z ≤ 9223372036854775807) (hp : pc + 1 = pc') (k : sv_T X cs L sh F Q y pc' lv (sv_L (x % z) :: st) S) : sv_T X cs L sh F Q y pc lv (sv_L z :: sv_L x :: st) S :=
  sv_pure hM hd (show (if Int64.ofInt z = 0 then none else some (lv, Value.long (Int64.ofInt x - Int64.ofInt x / Int64.ofInt z * Int64.ofInt z) :: st)) = some (lv, sv_L (x % z) :: st) by
    rw [if_neg (by intro q; have := (sv_Leq (x := z) (y := 0) ⟨by omega, by omega⟩ ⟨by decide, by decide⟩).mp q; omega), sv_ltdiv hx hz, ← Int64.ofInt_mul, ← Int64.ofInt_sub]
    have e : x - x / z * z = x % z := by rw [Int.emod_def, Int.mul_comm]
    rw [e]) hp k
end SVD
/-- so many unlike things below m are at most m -/
theorem sv_pig : ∀ (m : Nat) (n : Nat) (f : Int → Int), (∀ i : Int, 0 ≤ i → i < n → 0 ≤ f i ∧ f i < m) → (∀ i j : Int, 0 ≤ i → i < n → 0 ≤ j → j < n → f i = f j → i = j) → n ≤ m := by
  intro m
  induction m with
  | zero =>
    intro n f h _
    cases n with
    | zero => exact Nat.le_refl _
    | succ n => have := h 0 (by omega) (by omega); omega
  | succ m ih =>
    intro n f h1 h2
    cases n with
    | zero => exact Nat.zero_le _
    | succ n =>
      by_cases hm : ∃ i : Int, 0 ≤ i ∧ i < (n + 1 : Nat) ∧ f i = m
      · obtain ⟨i, hi0, hi1, hi⟩ := hm
        have h := ih n (fun k => if k = i then f n else f k) (fun k hk0 hk1 => by
          try dsimp only
          split
          · rename_i hki
            have a := h1 n (by omega) (by omega)
            have b : f n ≠ m := fun q => by have := h2 n i (by omega) (by omega) hi0 hi1 (by omega); omega
            omega
          · rename_i hki
            have a := h1 k hk0 (by omega)
            have b : f k ≠ m := fun q => hki (h2 k i hk0 (by omega) hi0 hi1 (by omega))
            omega) (fun a b ha0 ha1 hb0 hb1 hab => by
          try dsimp only at hab
          split at hab <;> split at hab
          · omega
          · rename_i p q
            have := h2 n b (by omega) (by omega) hb0 (by omega) hab
            omega
          · rename_i p q
            have := h2 a n ha0 (by omega) (by omega) (by omega) hab
            omega
          · exact h2 a b ha0 (by omega) hb0 (by omega) hab)
        omega
      · have h := ih (n + 1) f (fun k hk0 hk1 => by
          have a := h1 k hk0 hk1
          have b : f k ≠ m := fun q => hm ⟨k, hk0, hk1, q⟩
          omega) h2
        omega

