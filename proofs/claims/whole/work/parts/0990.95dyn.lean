theorem dX12_wrapIn_0 : decode cX12_wrapIn 0 = .ok (.aload_n 0, 1) := by decide +kernel
theorem dX12_wrapIn_1 : decode cX12_wrapIn 1 = .ok (.getfield 637, 3) := by decide +kernel
theorem dX12_wrapIn_4 : decode cX12_wrapIn 4 = .ok (.aload_n 0, 1) := by decide +kernel
theorem dX12_wrapIn_5 : decode cX12_wrapIn 5 = .ok (.getfield 113, 3) := by decide +kernel
theorem dX12_wrapIn_8 : decode cX12_wrapIn 8 = .ok (.arraylength, 1) := by decide +kernel
theorem dX12_wrapIn_9 : decode cX12_wrapIn 9 = .ok (.if_icmp .ne 58, 3) := by decide +kernel
theorem dX12_wrapIn_12 : decode cX12_wrapIn 12 = .ok (.aload_n 0, 1) := by decide +kernel
theorem dX12_wrapIn_13 : decode cX12_wrapIn 13 = .ok (.aload_n 0, 1) := by decide +kernel
theorem dX12_wrapIn_14 : decode cX12_wrapIn 14 = .ok (.getfield 113, 3) := by decide +kernel
theorem dX12_wrapIn_17 : decode cX12_wrapIn 17 = .ok (.invokestatic 640, 3) := by decide +kernel
theorem dX12_wrapIn_20 : decode cX12_wrapIn 20 = .ok (.putfield 113, 3) := by decide +kernel
theorem dX12_wrapIn_23 : decode cX12_wrapIn 23 = .ok (.aload_n 0, 1) := by decide +kernel
theorem dX12_wrapIn_24 : decode cX12_wrapIn 24 = .ok (.aload_n 0, 1) := by decide +kernel
theorem dX12_wrapIn_25 : decode cX12_wrapIn 25 = .ok (.getfield 116, 3) := by decide +kernel
theorem dX12_wrapIn_28 : decode cX12_wrapIn 28 = .ok (.invokestatic 640, 3) := by decide +kernel
theorem dX12_wrapIn_31 : decode cX12_wrapIn 31 = .ok (.putfield 116, 3) := by decide +kernel
theorem dX12_wrapIn_34 : decode cX12_wrapIn 34 = .ok (.aload_n 0, 1) := by decide +kernel
theorem dX12_wrapIn_35 : decode cX12_wrapIn 35 = .ok (.aload_n 0, 1) := by decide +kernel
theorem dX12_wrapIn_36 : decode cX12_wrapIn 36 = .ok (.getfield 119, 3) := by decide +kernel
theorem dX12_wrapIn_39 : decode cX12_wrapIn 39 = .ok (.invokestatic 640, 3) := by decide +kernel
theorem dX12_wrapIn_42 : decode cX12_wrapIn 42 = .ok (.putfield 119, 3) := by decide +kernel
theorem dX12_wrapIn_45 : decode cX12_wrapIn 45 = .ok (.aload_n 0, 1) := by decide +kernel
theorem dX12_wrapIn_46 : decode cX12_wrapIn 46 = .ok (.aload_n 0, 1) := by decide +kernel
theorem dX12_wrapIn_47 : decode cX12_wrapIn 47 = .ok (.getfield 122, 3) := by decide +kernel
theorem dX12_wrapIn_50 : decode cX12_wrapIn 50 = .ok (.invokestatic 640, 3) := by decide +kernel
theorem dX12_wrapIn_53 : decode cX12_wrapIn 53 = .ok (.putfield 122, 3) := by decide +kernel
theorem dX12_wrapIn_56 : decode cX12_wrapIn 56 = .ok (.aload_n 0, 1) := by decide +kernel
theorem dX12_wrapIn_57 : decode cX12_wrapIn 57 = .ok (.aload_n 0, 1) := by decide +kernel
theorem dX12_wrapIn_58 : decode cX12_wrapIn 58 = .ok (.getfield 125, 3) := by decide +kernel
theorem dX12_wrapIn_61 : decode cX12_wrapIn 61 = .ok (.invokestatic 640, 3) := by decide +kernel
theorem dX12_wrapIn_64 : decode cX12_wrapIn 64 = .ok (.putfield 125, 3) := by decide +kernel
theorem dX12_wrapIn_67 : decode cX12_wrapIn 67 = .ok (.aload_n 0, 1) := by decide +kernel
theorem dX12_wrapIn_68 : decode cX12_wrapIn 68 = .ok (.getfield 113, 3) := by decide +kernel
theorem dX12_wrapIn_71 : decode cX12_wrapIn 71 = .ok (.aload_n 0, 1) := by decide +kernel
theorem dX12_wrapIn_72 : decode cX12_wrapIn 72 = .ok (.getfield 637, 3) := by decide +kernel
theorem dX12_wrapIn_75 : decode cX12_wrapIn 75 = .ok (.iload_n 1, 1) := by decide +kernel
theorem dX12_wrapIn_76 : decode cX12_wrapIn 76 = .ok (.iastore, 1) := by decide +kernel
theorem dX12_wrapIn_77 : decode cX12_wrapIn 77 = .ok (.aload_n 0, 1) := by decide +kernel
theorem dX12_wrapIn_78 : decode cX12_wrapIn 78 = .ok (.getfield 116, 3) := by decide +kernel
theorem dX12_wrapIn_81 : decode cX12_wrapIn 81 = .ok (.aload_n 0, 1) := by decide +kernel
theorem dX12_wrapIn_82 : decode cX12_wrapIn 82 = .ok (.getfield 637, 3) := by decide +kernel
theorem dX12_wrapIn_85 : decode cX12_wrapIn 85 = .ok (.iload_n 2, 1) := by decide +kernel
theorem dX12_wrapIn_86 : decode cX12_wrapIn 86 = .ok (.iastore, 1) := by decide +kernel
theorem dX12_wrapIn_87 : decode cX12_wrapIn 87 = .ok (.aload_n 0, 1) := by decide +kernel
theorem dX12_wrapIn_88 : decode cX12_wrapIn 88 = .ok (.getfield 119, 3) := by decide +kernel
theorem dX12_wrapIn_91 : decode cX12_wrapIn 91 = .ok (.aload_n 0, 1) := by decide +kernel
theorem dX12_wrapIn_92 : decode cX12_wrapIn 92 = .ok (.getfield 637, 3) := by decide +kernel
theorem dX12_wrapIn_95 : decode cX12_wrapIn 95 = .ok (.iload_n 3, 1) := by decide +kernel
theorem dX12_wrapIn_96 : decode cX12_wrapIn 96 = .ok (.iastore, 1) := by decide +kernel
theorem dX12_wrapIn_97 : decode cX12_wrapIn 97 = .ok (.aload_n 0, 1) := by decide +kernel
theorem dX12_wrapIn_98 : decode cX12_wrapIn 98 = .ok (.getfield 122, 3) := by decide +kernel
theorem dX12_wrapIn_101 : decode cX12_wrapIn 101 = .ok (.aload_n 0, 1) := by decide +kernel
theorem dX12_wrapIn_102 : decode cX12_wrapIn 102 = .ok (.getfield 637, 3) := by decide +kernel
theorem dX12_wrapIn_105 : decode cX12_wrapIn 105 = .ok (.iload 4, 2) := by decide +kernel
theorem dX12_wrapIn_107 : decode cX12_wrapIn 107 = .ok (.iastore, 1) := by decide +kernel
theorem dX12_wrapIn_108 : decode cX12_wrapIn 108 = .ok (.aload_n 0, 1) := by decide +kernel
theorem dX12_wrapIn_109 : decode cX12_wrapIn 109 = .ok (.getfield 125, 3) := by decide +kernel
theorem dX12_wrapIn_112 : decode cX12_wrapIn 112 = .ok (.aload_n 0, 1) := by decide +kernel
theorem dX12_wrapIn_113 : decode cX12_wrapIn 113 = .ok (.getfield 637, 3) := by decide +kernel
theorem dX12_wrapIn_116 : decode cX12_wrapIn 116 = .ok (.aload_n 0, 1) := by decide +kernel
theorem dX12_wrapIn_117 : decode cX12_wrapIn 117 = .ok (.getfield 634, 3) := by decide +kernel
theorem dX12_wrapIn_120 : decode cX12_wrapIn 120 = .ok (.iastore, 1) := by decide +kernel
theorem dX12_wrapIn_121 : decode cX12_wrapIn 121 = .ok (.aload_n 0, 1) := by decide +kernel
theorem dX12_wrapIn_122 : decode cX12_wrapIn 122 = .ok (.aload_n 0, 1) := by decide +kernel
theorem dX12_wrapIn_123 : decode cX12_wrapIn 123 = .ok (.getfield 637, 3) := by decide +kernel
theorem dX12_wrapIn_126 : decode cX12_wrapIn 126 = .ok (.putfield 634, 3) := by decide +kernel
theorem dX12_wrapIn_129 : decode cX12_wrapIn 129 = .ok (.aload_n 0, 1) := by decide +kernel
theorem dX12_wrapIn_130 : decode cX12_wrapIn 130 = .ok (.dup, 1) := by decide +kernel
theorem dX12_wrapIn_131 : decode cX12_wrapIn 131 = .ok (.getfield 637, 3) := by decide +kernel
theorem dX12_wrapIn_134 : decode cX12_wrapIn 134 = .ok (.iconst 1, 1) := by decide +kernel
theorem dX12_wrapIn_135 : decode cX12_wrapIn 135 = .ok (.iadd, 1) := by decide +kernel
theorem dX12_wrapIn_136 : decode cX12_wrapIn 136 = .ok (.putfield 637, 3) := by decide +kernel
theorem dX12_wrapIn_139 : decode cX12_wrapIn 139 = .ok (.return_, 1) := by decide +kernel
theorem dX12_unwrap_0 : decode cX12_unwrap 0 = .ok (.aload_n 0, 1) := by decide +kernel
theorem dX12_unwrap_1 : decode cX12_unwrap 1 = .ok (.iload_n 1, 1) := by decide +kernel
theorem dX12_unwrap_2 : decode cX12_unwrap 2 = .ok (.putfield 634, 3) := by decide +kernel
theorem dX12_unwrap_5 : decode cX12_unwrap 5 = .ok (.aload_n 0, 1) := by decide +kernel
theorem dX12_unwrap_6 : decode cX12_unwrap 6 = .ok (.iload_n 2, 1) := by decide +kernel
theorem dX12_unwrap_7 : decode cX12_unwrap 7 = .ok (.putfield 637, 3) := by decide +kernel
theorem dX12_unwrap_10 : decode cX12_unwrap 10 = .ok (.return_, 1) := by decide +kernel
/-! ROWS THAT ARE MADE ANEW (wrap, wrapList, wrapOut, wrapOn, wrapAround): their fields hold places; slots 92 .. 101 are the new ones -/
section DYN
variable {X : Nat → Option (List Int32)} {cs : sv_S → Nat × Nat} {L : Nat → Option ev_M} {sh : sv_S → List sv_C} {F : Nat} {Q : Option Value → sv_S → Prop} {y pc pc' len : Nat} {lv lv' : List (Nat × Value)} {st st' : List Value} {S S' : sv_S} {M : ev_M} {ins : Instr}
theorem sv_getY {a ci k j i : Nat} {fs : List sv_F} (hM : L y = some M) (hd : decode M.1.2.1 pc = .ok (.getfield i, 3)) (hf : M.2.1 i = some (ci, k)) (hs : (sh S)[a]? = some (.inr (ci, fs))) (hk : fs[k]?.map (sv_fv S a k) = some (.ref j)) (hp : pc + 3 = pc') (kk : sv_T X cs L sh F Q y pc' lv (.ref j :: st) S) : sv_T X cs L sh F Q y pc lv (.ref a :: st) S :=
  sv_look hM hd rfl rfl (by
    show (match M.2.1 i, (sv_E (sh S) S)[a]? with | some (ci, k), some (.inr (ci', fs)) => if ci' = ci then (fs[k]?).map (fun v => v :: st) else none | _, _ => none) = _
    rw [hf, sv_E_at hs]
    simp only [sv_x, if_pos, List.getElem?_mapIdx, hk, Option.map_some]) hp kk
theorem sv_putY {a ci k j i w : Nat} {fs : List sv_F} {x : Int} (hX : sv_X sh cs) (hM : L y = some M) (hd : decode M.1.2.1 pc = .ok (.putfield i, 3)) (hf : M.2.2.1 i = some (ci, k, .array .int, false)) (hs : (sh S)[a]? = some (.inr (ci, fs))) (hk : fs[k]? = some (none, .array .int)) (hj : 1000 * (a + 1) + k = j) (hx : x.toNat = w) (hp : pc + 3 = pc') (kk : sv_T X cs L sh F Q y pc' lv st (sv_up S j 0 x)) : sv_T X cs L sh F Q y pc lv (.ref w :: .ref a :: st) S := by
  subst hj hx
  have hl := (List.getElem?_eq_some_iff.mp hk).1
  have hgk := (hX.1 S).2 ci fs (List.mem_of_getElem? hs)
  refine sv_store hM hd rfl rfl rfl rfl (st' := st) (E' := (sv_E (sh S) S).set a (.inr (ci, (fs.mapIdx (sv_fv S a)).set k (.ref x.toNat)))) ?_ ?_ hp kk
  · show (match M.2.2.1 i, (sv_E (sh S) S)[a]? with | some (ci, k, ty, f), some (.inr (ci', fs)) => if ci' = ci then if k < fs.length then if f = true → false = true then if narrow ty (Value.ref x.toNat) = Value.ref x.toNat then if fits ty (Value.ref x.toNat) = true then some (st, (sv_E (sh S) S).set a (.inr (ci, fs.set k (Value.ref x.toNat)))) else none else none else none else none else none | _, _ => none) = _
    rw [hf, sv_E_at hs]
    simp only [sv_x]
    rw [if_pos True.intro, if_pos (by rw [List.length_mapIdx]; exact hl), if_pos (by intro q; cases q), if_pos (show narrow (FieldType.array FieldType.int) (Value.ref x.toNat) = Value.ref x.toNat from rfl), if_pos (show fits (FieldType.array FieldType.int) (Value.ref x.toNat) = true from rfl)]
  · obtain ⟨e1, e2⟩ := sv_XF (v := x) hX hs hl
    refine ⟨?_, e2⟩
    rw [← e1, ← sv_x_field hk hgk]
    congr 4
    simp only [sv_fv, sv_up, if_pos]
theorem sv_longer {i p n q : Nat} {rest : List Value} {S1 : sv_S} (hM : L y = some M) (hd : decode M.1.2.1 pc = .ok (.invokestatic i, 3)) (hi : M.2.2.2.2 i = some (none, 1003, 1)) (hN : L 1003 = none) (hs : (sh S)[p]? = some (.inl (.int, n))) (hn : n < 500000) (hr : (rest.map fun v => v.category).sum ≤ 8) (hF : 2 ≤ F) (hl : (sh S).length = q)
    (hE : sv_E (sh S1) S1 = sv_E (sh S) S ++ [.inl (.int, 2 * n, .inl (fun j => if j < n then Int32.ofInt (S p j) else 0))]) (hc : cs S1 = ((cs S).1 + 1, (cs S).2 + 2 * n)) (hp : pc + 3 = pc') (k : sv_T X cs L sh F Q y pc' lv (.ref q :: rest) S1) : sv_T X cs L sh F Q y pc lv (.ref p :: rest) S := by
  refine sv_callX (S1 := S1) (v := some (.ref q)) (f := 1) (w := 50) (c := 1) (d := 2 * n) hM hd rfl rfl rfl rfl rfl rfl (z := 1003) (as := [.ref p]) (rest := rest) ?_ hr hN ?_ (by rw [hc]) (by rw [hc]) (by omega) (by omega) hp k
  · show (match M.2.2.2.2 i with | some (none, k, n) => if n ≤ (Value.ref p :: rest).length then some (k, ((Value.ref p :: rest).take n).reverse, (Value.ref p :: rest).drop n) else none | _ => none) = _
    rw [hi]
    dsimp only
    rw [if_pos (by simp)]
    rfl
  · show (match (sv_E (sh S) S)[p]? with | some (.inl (.int, n, .inl f)) => if n < 500000 then some (some (Value.ref (sv_E (sh S) S).length), sv_E (sh S) S ++ [(Sum.inl (FieldType.int, 2 * n, Sum.inl (fun j => if j < n then f j else 0)) : ev_C)], 1, 50, 1, 2 * n) else none | _ => none) = _
    have hlen : (sv_E (sh S) S).length = q := by unfold sv_E; rw [List.length_mapIdx]; exact hl
    rw [sv_E_at hs, hE, hlen]
    simp only [sv_x, sv_av]
    rw [if_pos hn]
end DYN
theorem sm_longer {S : sv_S} {m p n : Nat} {f : Int → Int} (hm : S 1100000 0 = (m : Int)) (h9 : m < 100) (hn : 2 * n = sm_len m) (hf : ∀ j : Nat, f j = if (j : Int) < (n : Int) then S p j else 0) :
    (sm_sh S).length = 92 + m ∧ sv_E (sm_sh (sv_row (sv_up S 1100000 0 ((m : Int) + 1)) (92 + m) f)) (sv_row (sv_up S 1100000 0 ((m : Int) + 1)) (92 + m) f) = sv_E (sm_sh S) S ++ [.inl (.int, 2 * n, .inl (fun j => if j < n then Int32.ofInt (S p j) else 0))] ∧ sm_cs (sv_row (sv_up S 1100000 0 ((m : Int) + 1)) (92 + m) f) = ((sm_cs S).1 + 1, (sm_cs S).2 + 2 * n) := by
  generalize hS1 : sv_row (sv_up S 1100000 0 ((m : Int) + 1)) (92 + m) f = S1
  have e0 : sm_made S = m := by unfold sm_made; rw [hm]; omega
  have e1 : sm_made S1 = m + 1 := by
    unfold sm_made
    rw [← hS1, sv_row_ne (by omega), sv_up_eq]
    dsimp only
    rw [if_pos rfl]
    omega
  have e2 : sm_sh S1 = sm_sh S ++ [.inl (.int, sm_len m)] := by
    unfold sm_sh sm_dyn
    rw [e0, e1, List.range_succ, List.map_append, List.append_assoc]
    rfl
  have hl : (sm_sh S).length = 92 + m := by
    unfold sm_sh sm_dyn
    rw [List.length_append, List.length_map, List.length_range, e0]
    rfl
  have r1 : ∀ j : Nat, j ≠ 92 + m → j ≠ 1100000 → S1 j = S j := fun j h1 h2 => by rw [← hS1, sv_row_ne h1, sv_up_ne h2]
  have e3 : S1 (92 + m) = f := by rw [← hS1]; unfold sv_row; rw [if_pos rfl]
  have hg := sm_X.1 S
  refine ⟨hl, ?_, ?_⟩
  · rw [e2]
    unfold sv_E
    rw [List.mapIdx_append]
    have A : (sm_sh S).mapIdx (sv_x S1) = (sm_sh S).mapIdx (sv_x S) := by
      refine List.ext_getElem? fun k => ?_
      rw [List.getElem?_mapIdx, List.getElem?_mapIdx]
      cases hk : (sm_sh S)[k]? with
      | none => rfl
      | some c' =>
        have hk1 := (List.getElem?_eq_some_iff.mp hk).1
        have hg1 := hg.1
        simp only [Option.map_some]
        congr 1
        exact sv_x_eq (r1 k (by omega) (by omega)) (fun ci fs k' hc hk' => by
          subst hc
          have := hg.2 ci fs (List.mem_of_getElem? hk)
          exact r1 _ (by omega) (by omega))
    have B : (fun k : Nat => Int32.ofInt (f k)) = fun j : Nat => if j < n then Int32.ofInt (S p j) else 0 := by
      funext j
      rw [hf]
      by_cases q : j < n
      · rw [if_pos (by omega), if_pos q]
      · rw [if_neg (by omega), if_neg q]; rfl
    rw [A]
    simp only [List.mapIdx_cons, List.mapIdx_nil, sv_x, sv_av, Nat.zero_add, hl, e3, B, hn]
  · unfold sm_cs
    rw [e0, e1, List.range_succ, List.map_append, List.sum_append]
    simp [hn]
theorem sm_aD {S : sv_S} {m q : Nat} (hm : S 1100000 0 = (m : Int)) (h9 : m ≤ 100) (hq : q < m) : (sm_sh S)[92 + q]? = some (.inl (.int, sm_len q)) := by
  have e0 : sm_made S = m := by unfold sm_made; rw [hm]; omega
  have hb : sm_base.length = 92 := rfl
  unfold sm_sh sm_dyn
  rw [List.getElem?_append_right (by omega), hb, Nat.add_sub_cancel_left, List.getElem?_map, List.getElem?_range (by omega)]
  rfl
def sm_DY (f1 f2 f3 f4 f5 md n : Int) (s1 s2 s3 s4 s5 d0 d1 d2 d3 d4 d5 d6 d7 d8 d9 g1 g2 g3 g4 g5 : Int → Int) : Prop := 0 ≤ n ∧
  ((md = 0 ∧ f1 = 34 ∧ f2 = 35 ∧ f3 = 36 ∧ f4 = 37 ∧ f5 = 38 ∧ n ≤ 2000 ∧ ∀ i : Int, 0 ≤ i → i < n → s1 i = g1 i ∧ s2 i = g2 i ∧ s3 i = g3 i ∧ s4 i = g4 i ∧ s5 i = g5 i) ∨
  (md = 5 ∧ f1 = 92 ∧ f2 = 93 ∧ f3 = 94 ∧ f4 = 95 ∧ f5 = 96 ∧ n ≤ 4000 ∧ ∀ i : Int, 0 ≤ i → i < n → d0 i = g1 i ∧ d1 i = g2 i ∧ d2 i = g3 i ∧ d3 i = g4 i ∧ d4 i = g5 i) ∨
  (md = 10 ∧ f1 = 97 ∧ f2 = 98 ∧ f3 = 99 ∧ f4 = 100 ∧ f5 = 101 ∧ n ≤ 8000 ∧ ∀ i : Int, 0 ≤ i → i < n → d5 i = g1 i ∧ d6 i = g2 i ∧ d7 i = g3 i ∧ d8 i = g4 i ∧ d9 i = g5 i))
theorem sm_DY_0 {f1 f2 f3 f4 f5 md n : Int} {s1 s2 s3 s4 s5 d0 d1 d2 d3 d4 d5 d6 d7 d8 d9 g1 g2 g3 g4 g5 : Int → Int} (e : md = 0 ∧ f1 = 34 ∧ f2 = 35 ∧ f3 = 36 ∧ f4 = 37 ∧ f5 = 38) (h : 0 ≤ n ∧ n ≤ 2000) (k : ∀ i : Int, 0 ≤ i → i < n → s1 i = g1 i ∧ s2 i = g2 i ∧ s3 i = g3 i ∧ s4 i = g4 i ∧ s5 i = g5 i) : sm_DY f1 f2 f3 f4 f5 md n s1 s2 s3 s4 s5 d0 d1 d2 d3 d4 d5 d6 d7 d8 d9 g1 g2 g3 g4 g5 := ⟨h.1, Or.inl ⟨e.1, e.2.1, e.2.2.1, e.2.2.2.1, e.2.2.2.2.1, e.2.2.2.2.2, h.2, k⟩⟩
theorem sm_DY_5 {f1 f2 f3 f4 f5 md n : Int} {s1 s2 s3 s4 s5 d0 d1 d2 d3 d4 d5 d6 d7 d8 d9 g1 g2 g3 g4 g5 : Int → Int} (e : md = 5 ∧ f1 = 92 ∧ f2 = 93 ∧ f3 = 94 ∧ f4 = 95 ∧ f5 = 96) (h : 0 ≤ n ∧ n ≤ 4000) (k : ∀ i : Int, 0 ≤ i → i < n → d0 i = g1 i ∧ d1 i = g2 i ∧ d2 i = g3 i ∧ d3 i = g4 i ∧ d4 i = g5 i) : sm_DY f1 f2 f3 f4 f5 md n s1 s2 s3 s4 s5 d0 d1 d2 d3 d4 d5 d6 d7 d8 d9 g1 g2 g3 g4 g5 := ⟨h.1, Or.inr (Or.inl ⟨e.1, e.2.1, e.2.2.1, e.2.2.2.1, e.2.2.2.2.1, e.2.2.2.2.2, h.2, k⟩)⟩
theorem sm_DY_10 {f1 f2 f3 f4 f5 md n : Int} {s1 s2 s3 s4 s5 d0 d1 d2 d3 d4 d5 d6 d7 d8 d9 g1 g2 g3 g4 g5 : Int → Int} (e : md = 10 ∧ f1 = 97 ∧ f2 = 98 ∧ f3 = 99 ∧ f4 = 100 ∧ f5 = 101) (h : 0 ≤ n ∧ n ≤ 8000) (k : ∀ i : Int, 0 ≤ i → i < n → d5 i = g1 i ∧ d6 i = g2 i ∧ d7 i = g3 i ∧ d8 i = g4 i ∧ d9 i = g5 i) : sm_DY f1 f2 f3 f4 f5 md n s1 s2 s3 s4 s5 d0 d1 d2 d3 d4 d5 d6 d7 d8 d9 g1 g2 g3 g4 g5 := ⟨h.1, Or.inr (Or.inr ⟨e.1, e.2.1, e.2.2.1, e.2.2.2.1, e.2.2.2.2.1, e.2.2.2.2.2, h.2, k⟩)⟩
theorem sm_DY_w {f1 f2 f3 f4 f5 md n : Int} {s1 s2 s3 s4 s5 d0 d1 d2 d3 d4 d5 d6 d7 d8 d9 g1 g2 g3 g4 g5 : Int → Int} {n2 : Int} (h : sm_DY f1 f2 f3 f4 f5 md n s1 s2 s3 s4 s5 d0 d1 d2 d3 d4 d5 d6 d7 d8 d9 g1 g2 g3 g4 g5) (h0 : 0 ≤ n2) (hn : n2 ≤ n) : sm_DY f1 f2 f3 f4 f5 md n2 s1 s2 s3 s4 s5 d0 d1 d2 d3 d4 d5 d6 d7 d8 d9 g1 g2 g3 g4 g5 := by
  obtain ⟨a, b⟩ := h
  refine ⟨h0, ?_⟩
  rcases b with ⟨b1, b2, b3, b4, b5, b6, b7, b8⟩ | ⟨b1, b2, b3, b4, b5, b6, b7, b8⟩ | ⟨b1, b2, b3, b4, b5, b6, b7, b8⟩
  · exact Or.inl ⟨b1, b2, b3, b4, b5, b6, by omega, fun i i0 i1 => b8 i i0 (by omega)⟩
  · exact Or.inr (Or.inl ⟨b1, b2, b3, b4, b5, b6, by omega, fun i i0 i1 => b8 i i0 (by omega)⟩)
  · exact Or.inr (Or.inr ⟨b1, b2, b3, b4, b5, b6, by omega, fun i i0 i1 => b8 i i0 (by omega)⟩)
theorem sm_DY_l1 {S : sv_S} {n : Int} {g1 g2 g3 g4 g5 : Int → Int} (h : sm_DY (S 1061 0) (S 1062 0) (S 1063 0) (S 1064 0) (S 1065 0) (S 1100000 0) n (S 34) (S 35) (S 36) (S 37) (S 38) (S 92) (S 93) (S 94) (S 95) (S 96) (S 97) (S 98) (S 99) (S 100) (S 101) g1 g2 g3 g4 g5) {w : Int} (h0 : 0 ≤ w) (h1 : w < n) : ∃ q : Nat, (sm_sh S)[(S 1061 0).toNat]? = some (.inl (.int, q)) ∧ q < 2147483648 ∧ w < (q : Int) ∧ S (S 1061 0).toNat w = g1 w := by
  obtain ⟨a, b⟩ := h
  rcases b with ⟨b1, b2, b3, b4, b5, b6, b7, b8⟩ | ⟨b1, b2, b3, b4, b5, b6, b7, b8⟩ | ⟨b1, b2, b3, b4, b5, b6, b7, b8⟩
  · rw [b2]; exact ⟨2000, sm_a34 S, by decide, by omega, (b8 w h0 h1).1⟩
  · rw [b2]; exact ⟨sm_len 0, sm_aD (m := 5) (q := 0) b1 (by decide) (by decide), by decide, (by have e : ((sm_len 0 : Nat) : Int) = 4000 := (by decide); omega), (b8 w h0 h1).1⟩
  · rw [b2]; exact ⟨sm_len 5, sm_aD (m := 10) (q := 5) b1 (by decide) (by decide), by decide, (by have e : ((sm_len 5 : Nat) : Int) = 8000 := (by decide); omega), (b8 w h0 h1).1⟩
theorem sm_DY_l2 {S : sv_S} {n : Int} {g1 g2 g3 g4 g5 : Int → Int} (h : sm_DY (S 1061 0) (S 1062 0) (S 1063 0) (S 1064 0) (S 1065 0) (S 1100000 0) n (S 34) (S 35) (S 36) (S 37) (S 38) (S 92) (S 93) (S 94) (S 95) (S 96) (S 97) (S 98) (S 99) (S 100) (S 101) g1 g2 g3 g4 g5) {w : Int} (h0 : 0 ≤ w) (h1 : w < n) : ∃ q : Nat, (sm_sh S)[(S 1062 0).toNat]? = some (.inl (.int, q)) ∧ q < 2147483648 ∧ w < (q : Int) ∧ S (S 1062 0).toNat w = g2 w := by
  obtain ⟨a, b⟩ := h
  rcases b with ⟨b1, b2, b3, b4, b5, b6, b7, b8⟩ | ⟨b1, b2, b3, b4, b5, b6, b7, b8⟩ | ⟨b1, b2, b3, b4, b5, b6, b7, b8⟩
  · rw [b3]; exact ⟨2000, sm_a35 S, by decide, by omega, (b8 w h0 h1).2.1⟩
  · rw [b3]; exact ⟨sm_len 1, sm_aD (m := 5) (q := 1) b1 (by decide) (by decide), by decide, (by have e : ((sm_len 1 : Nat) : Int) = 4000 := (by decide); omega), (b8 w h0 h1).2.1⟩
  · rw [b3]; exact ⟨sm_len 6, sm_aD (m := 10) (q := 6) b1 (by decide) (by decide), by decide, (by have e : ((sm_len 6 : Nat) : Int) = 8000 := (by decide); omega), (b8 w h0 h1).2.1⟩
theorem sm_DY_l3 {S : sv_S} {n : Int} {g1 g2 g3 g4 g5 : Int → Int} (h : sm_DY (S 1061 0) (S 1062 0) (S 1063 0) (S 1064 0) (S 1065 0) (S 1100000 0) n (S 34) (S 35) (S 36) (S 37) (S 38) (S 92) (S 93) (S 94) (S 95) (S 96) (S 97) (S 98) (S 99) (S 100) (S 101) g1 g2 g3 g4 g5) {w : Int} (h0 : 0 ≤ w) (h1 : w < n) : ∃ q : Nat, (sm_sh S)[(S 1063 0).toNat]? = some (.inl (.int, q)) ∧ q < 2147483648 ∧ w < (q : Int) ∧ S (S 1063 0).toNat w = g3 w := by
  obtain ⟨a, b⟩ := h
  rcases b with ⟨b1, b2, b3, b4, b5, b6, b7, b8⟩ | ⟨b1, b2, b3, b4, b5, b6, b7, b8⟩ | ⟨b1, b2, b3, b4, b5, b6, b7, b8⟩
  · rw [b4]; exact ⟨2000, sm_a36 S, by decide, by omega, (b8 w h0 h1).2.2.1⟩
  · rw [b4]; exact ⟨sm_len 2, sm_aD (m := 5) (q := 2) b1 (by decide) (by decide), by decide, (by have e : ((sm_len 2 : Nat) : Int) = 4000 := (by decide); omega), (b8 w h0 h1).2.2.1⟩
  · rw [b4]; exact ⟨sm_len 7, sm_aD (m := 10) (q := 7) b1 (by decide) (by decide), by decide, (by have e : ((sm_len 7 : Nat) : Int) = 8000 := (by decide); omega), (b8 w h0 h1).2.2.1⟩
theorem sm_DY_l4 {S : sv_S} {n : Int} {g1 g2 g3 g4 g5 : Int → Int} (h : sm_DY (S 1061 0) (S 1062 0) (S 1063 0) (S 1064 0) (S 1065 0) (S 1100000 0) n (S 34) (S 35) (S 36) (S 37) (S 38) (S 92) (S 93) (S 94) (S 95) (S 96) (S 97) (S 98) (S 99) (S 100) (S 101) g1 g2 g3 g4 g5) {w : Int} (h0 : 0 ≤ w) (h1 : w < n) : ∃ q : Nat, (sm_sh S)[(S 1064 0).toNat]? = some (.inl (.int, q)) ∧ q < 2147483648 ∧ w < (q : Int) ∧ S (S 1064 0).toNat w = g4 w := by
  obtain ⟨a, b⟩ := h
  rcases b with ⟨b1, b2, b3, b4, b5, b6, b7, b8⟩ | ⟨b1, b2, b3, b4, b5, b6, b7, b8⟩ | ⟨b1, b2, b3, b4, b5, b6, b7, b8⟩
  · rw [b5]; exact ⟨2000, sm_a37 S, by decide, by omega, (b8 w h0 h1).2.2.2.1⟩
  · rw [b5]; exact ⟨sm_len 3, sm_aD (m := 5) (q := 3) b1 (by decide) (by decide), by decide, (by have e : ((sm_len 3 : Nat) : Int) = 4000 := (by decide); omega), (b8 w h0 h1).2.2.2.1⟩
  · rw [b5]; exact ⟨sm_len 8, sm_aD (m := 10) (q := 8) b1 (by decide) (by decide), by decide, (by have e : ((sm_len 8 : Nat) : Int) = 8000 := (by decide); omega), (b8 w h0 h1).2.2.2.1⟩
theorem sm_DY_l5 {S : sv_S} {n : Int} {g1 g2 g3 g4 g5 : Int → Int} (h : sm_DY (S 1061 0) (S 1062 0) (S 1063 0) (S 1064 0) (S 1065 0) (S 1100000 0) n (S 34) (S 35) (S 36) (S 37) (S 38) (S 92) (S 93) (S 94) (S 95) (S 96) (S 97) (S 98) (S 99) (S 100) (S 101) g1 g2 g3 g4 g5) {w : Int} (h0 : 0 ≤ w) (h1 : w < n) : ∃ q : Nat, (sm_sh S)[(S 1065 0).toNat]? = some (.inl (.int, q)) ∧ q < 2147483648 ∧ w < (q : Int) ∧ S (S 1065 0).toNat w = g5 w := by
  obtain ⟨a, b⟩ := h
  rcases b with ⟨b1, b2, b3, b4, b5, b6, b7, b8⟩ | ⟨b1, b2, b3, b4, b5, b6, b7, b8⟩ | ⟨b1, b2, b3, b4, b5, b6, b7, b8⟩
  · rw [b6]; exact ⟨2000, sm_a38 S, by decide, by omega, (b8 w h0 h1).2.2.2.2⟩
  · rw [b6]; exact ⟨sm_len 4, sm_aD (m := 5) (q := 4) b1 (by decide) (by decide), by decide, (by have e : ((sm_len 4 : Nat) : Int) = 4000 := (by decide); omega), (b8 w h0 h1).2.2.2.2⟩
  · rw [b6]; exact ⟨sm_len 9, sm_aD (m := 10) (q := 9) b1 (by decide) (by decide), by decide, (by have e : ((sm_len 9 : Nat) : Int) = 8000 := (by decide); omega), (b8 w h0 h1).2.2.2.2⟩
theorem sm_r1100000 : sm_rk 1100000 = 0 := rfl
theorem sm_r92 : sm_rk 92 = 0 := rfl
theorem sm_r93 : sm_rk 93 = 0 := rfl
theorem sm_r94 : sm_rk 94 = 0 := rfl
theorem sm_r95 : sm_rk 95 = 0 := rfl
theorem sm_r96 : sm_rk 96 = 0 := rfl
theorem sm_r97 : sm_rk 97 = 0 := rfl
theorem sm_r98 : sm_rk 98 = 0 := rfl
theorem sm_r99 : sm_rk 99 = 0 := rfl
theorem sm_r100 : sm_rk 100 = 0 := rfl
theorem sm_r101 : sm_rk 101 = 0 := rfl
theorem sm_r1061 : sm_rk 1061 = 0 := rfl
theorem sm_r1062 : sm_rk 1062 = 0 := rfl
theorem sm_r1063 : sm_rk 1063 = 0 := rfl
theorem sm_r1064 : sm_rk 1064 = 0 := rfl
theorem sm_r1065 : sm_rk 1065 = 0 := rfl
theorem sm_r1100041 : sm_rk 1100041 = 0 := rfl
theorem sm_r1100042 : sm_rk 1100042 = 0 := rfl
theorem sm_r1100043 : sm_rk 1100043 = 0 := rfl
theorem sm_r1100044 : sm_rk 1100044 = 0 := rfl
theorem sm_r1100045 : sm_rk 1100045 = 0 := rfl
theorem sm_r1100046 : sm_rk 1100046 = 0 := rfl
theorem sm_r1100047 : sm_rk 1100047 = 0 := rfl
theorem sm_r1100048 : sm_rk 1100048 = 0 := rfl
theorem sm_r1100049 : sm_rk 1100049 = 0 := rfl
theorem sm_r1100050 : sm_rk 1100050 = 0 := rfl
theorem sm_r1100051 : sm_rk 1100051 = 0 := rfl
theorem sm_r1100052 : sm_rk 1100052 = 0 := rfl
theorem sm_r1100053 : sm_rk 1100053 = 0 := rfl
theorem sm_r1100054 : sm_rk 1100054 = 0 := rfl
theorem sm_r1100055 : sm_rk 1100055 = 0 := rfl
theorem sm_r1100056 : sm_rk 1100056 = 0 := rfl
theorem sm_r1100057 : sm_rk 1100057 = 0 := rfl
theorem sm_r1100058 : sm_rk 1100058 = 0 := rfl
theorem sm_r1100059 : sm_rk 1100059 = 0 := rfl
theorem sm_r1100060 : sm_rk 1100060 = 0 := rfl
set_option maxRecDepth 8000 in
theorem sm_fp_113 : sm_fp 113 = some (0, 61, .array .int, false) := rfl
theorem sm_q61 : sm_fs[61]? = some (none, .array .int) := rfl
set_option maxRecDepth 8000 in
theorem sm_fp_116 : sm_fp 116 = some (0, 62, .array .int, false) := rfl
theorem sm_q62 : sm_fs[62]? = some (none, .array .int) := rfl
set_option maxRecDepth 8000 in
theorem sm_fp_119 : sm_fp 119 = some (0, 63, .array .int, false) := rfl
theorem sm_q63 : sm_fs[63]? = some (none, .array .int) := rfl
set_option maxRecDepth 8000 in
theorem sm_fp_122 : sm_fp 122 = some (0, 64, .array .int, false) := rfl
theorem sm_q64 : sm_fs[64]? = some (none, .array .int) := rfl
set_option maxRecDepth 8000 in
theorem sm_fp_125 : sm_fp 125 = some (0, 65, .array .int, false) := rfl
theorem sm_q65 : sm_fs[65]? = some (none, .array .int) := rfl
set_option maxRecDepth 8000 in
theorem sm_iv_640 : sm_iv 640 = some (none, 1003, 1) := rfl

def q_wrapIn0 (p1 : Int) (p2 : Int) (p3 : Int) (p4 : Int) (S : sv_S) : Option Value → sv_S → Prop := fun v S' => v = none ∧ sm_ok S' ∧ sv_mod [1059, 1060, 1100000, 1061, 1062, 1063, 1064, 1065, 34, 35, 36, 37, 38, 92, 93, 94, 95, 96, 97, 98, 99, 100, 101, 1100037, 1100038, 1100039, 1100040, 1100041] S S' ∧ ((S' 1059 0) = (S 1059 0) + 1 ∧ (S' 1060 0) = (S 1059 0) ∧ sm_DY (S' 1061 0) (S' 1062 0) (S' 1063 0) (S' 1064 0) (S' 1065 0) (S' 1100000 0) (S' 1059 0) (S' 34) (S' 35) (S' 36) (S' 37) (S' 38) (S' 92) (S' 93) (S' 94) (S' 95) (S' 96) (S' 97) (S' 98) (S' 99) (S' 100) (S' 101) (S' 1100037) (S' 1100038) (S' 1100039) (S' 1100040) (S' 1100041) ∧ sm_F1 (S 1100037) (S' 1100037) (S 1059 0) ∧ sm_F1 (S 1100038) (S' 1100038) (S 1059 0) ∧ sm_F1 (S 1100039) (S' 1100039) (S 1059 0) ∧ sm_F1 (S 1100040) (S' 1100040) (S 1059 0) ∧ sm_F1 (S 1100041) (S' 1100041) (S 1059 0) ∧ (S' 1100037 ((S' 1059 0) - 1)) = p1 ∧ (S' 1100038 ((S' 1059 0) - 1)) = p2 ∧ (S' 1100039 ((S' 1059 0) - 1)) = p3 ∧ (S' 1100040 ((S' 1059 0) - 1)) = p4 ∧ (S' 1100041 ((S' 1059 0) - 1)) = (S 1060 0))
theorem la_wrapIn0_0 {x0 : Int} (h0 : x0 ≤ 2000) (h1 : ¬ x0 = 2000) : x0 < 2000 := by omega
theorem la_wrapIn0_1 {x0 : Int} (h0 : 0 ≤ x0) (h1 : x0 < 2000) : 0 ≤ x0 ∧ x0 < 2000 := by omega
theorem la_wrapIn0_2 {x0 : Int} (h0 : 0 ≤ x0) (h1 : x0 < 2000) : sv_R (x0 + 1) := by omega
theorem la_wrapIn0_3 {x0 x1 x2 x3 x4 x5 : Int} (h0 : x0 = 0) (h1 : x1 = 34) (h2 : x2 = 35) (h3 : x3 = 36) (h4 : x4 = 37) (h5 : x5 = 38) : x0 = 0 ∧ x1 = 34 ∧ x2 = 35 ∧ x3 = 36 ∧ x4 = 37 ∧ x5 = 38 := by omega
theorem la_wrapIn0_4 {x0 : Int} (h0 : 0 ≤ x0) (h1 : x0 < 2000) : 0 ≤ x0 + 1 ∧ x0 + 1 ≤ 2000 := by omega
theorem la_wrapIn0_5 {x0 x1 : Int} (h0 : x0 < x1 + 1) (h1 : x0 = x1) : x0 = x1 + 1 - 1 := by omega
theorem la_wrapIn0_6 {x0 x1 : Int} (h0 : x0 = x1) : ¬ x0 < x1 := by omega
theorem la_wrapIn0_7 {x0 x1 x2 : Int} (h0 : x0 = x1) (h1 : x2 = x1) : x0 = x2 := by omega
theorem la_wrapIn0_8 {x0 x1 : Int} (h0 : x0 < x1 + 1) : x0 ≤ x1 := by omega
theorem la_wrapIn0_9 {x0 x1 : Int} (h0 : x0 ≤ x1) (h1 : ¬ x0 = x1) : x0 < x1 := by omega
theorem la_wrapIn0_10 {x0 x1 : Int} (h0 : x0 < x1) : ¬ x0 = x1 + 1 - 1 := by omega
theorem la_wrapIn0_11 {x0 x1 x2 x3 : Int} (h0 : x0 = x1) (h1 : x2 = x3) (h2 : x1 = x3) : x0 = x2 := by omega
theorem la_wrapIn0_12 {x0 x1 x2 : Int} (h0 : x0 = x1) (h1 : x2 = x1) : x2 = x0 := by omega
theorem la_wrapIn0_13 {x0 x1 x2 x3 x4 x5 : Int} (h0 : x0 = 38) : ¬ (x1 = 5 ∧ x2 = 92 ∧ x3 = 93 ∧ x4 = 94 ∧ x5 = 95 ∧ x0 = 96) := by omega
theorem la_wrapIn0_14 {x0 : Int} : x0 + 1 = x0 + 1 := by omega
theorem la_wrapIn0_15 {x0 : Int} : x0 = x0 := by omega
theorem la_wrapIn0_16 {x0 : Int} : x0 ≤ x0 + 1 - 1 := by omega
theorem la_wrapIn0_17 {x0 : Int} (h0 : 0 ≤ x0) : 0 ≤ x0 + 1 - 1 := by omega
theorem la_wrapIn0_18 {x0 : Int} : x0 + 1 - 1 = x0 + 1 - 1 := by omega
theorem la_wrapIn0_19 {x0 : Int} : ¬ x0 + 1 - 1 < x0 := by omega
theorem la_wrapIn0_20 {x0 : Int} (h0 : x0 ≤ 2000) (h1 : ¬ ¬ x0 = 2000) : 0 ≤ x0 ∧ x0 < 4000 := by omega
theorem la_wrapIn0_21 {x0 : Int} (h0 : x0 ≤ 2000) (h1 : ¬ ¬ x0 = 2000) : sv_R (x0 + 1) := by omega
theorem la_wrapIn0_22 : ¬ ((5 : Int) = 0 ∧ (92 : Int) = 34 ∧ (93 : Int) = 35 ∧ (94 : Int) = 36 ∧ (95 : Int) = 37 ∧ (96 : Int) = 38) := by omega
theorem la_wrapIn0_23 : (5 : Int) = 5 ∧ (92 : Int) = 92 ∧ (93 : Int) = 93 ∧ (94 : Int) = 94 ∧ (95 : Int) = 95 ∧ (96 : Int) = 96 := by omega
theorem la_wrapIn0_24 {x0 : Int} (h0 : x0 ≤ 2000) (h1 : ¬ ¬ x0 = 2000) : 0 ≤ x0 + 1 ∧ x0 + 1 ≤ 4000 := by omega
theorem la_wrapIn0_25 {x0 x1 : Int} (h0 : ¬ ¬ x0 = 2000) (h1 : x1 = x0) : ¬ x1 < 2000 := by omega
theorem la_wrapIn0_26 {x0 x1 : Int} (h0 : ¬ ¬ x0 = 2000) (h1 : x1 < x0) : x1 < 2000 := by omega
theorem la_wrapIn0_27 {x0 x1 x2 x3 x4 : Int} (h0 : x0 = x1) (h1 : x2 = x3) (h2 : x1 = x4) (h3 : x4 = x3) : x0 = x2 := by omega
theorem la_wrapIn0_28 {x0 x1 : Int} (h0 : x0 ≤ 2000) (h1 : x1 < x0) : x1 < 2000 := by omega
theorem la_wrapIn0_29 {x0 x1 x2 x3 x4 : Int} (h0 : x0 = x1) (h1 : x1 = x2) (h2 : x3 = x4) (h3 : x2 = x4) : x0 = x3 := by omega
theorem la_wrapIn0_30 {x0 : Int} (h0 : ¬ ¬ x0 = 2000) : 0 ≤ x0 + 1 - 1 := by omega
set_option maxHeartbeats 8000000 in
theorem f_wrapIn0 : ∀ (p1 : Int) (p2 : Int) (p3 : Int) (p4 : Int) (S : sv_S), sm_ok S → sv_R p1 → sv_R p2 → sv_R p3 → sv_R p4 → ((S 1100000 0) = 0 ∧ (S 1061 0) = 34 ∧ (S 1062 0) = 35 ∧ (S 1063 0) = 36 ∧ (S 1064 0) = 37 ∧ (S 1065 0) = 38 ∧ 0 ≤ (S 1059 0) ∧ (S 1059 0) ≤ 2000 ∧ (S 1059 0) < 8000 ∧ -1 ≤ (S 1060 0) ∧ (S 1060 0) < (S 1059 0) ∧ (∀ i : Int, 0 ≤ i → i < (S 1059 0) → (S 34 i) = (S 1100037 i) ∧ (S 35 i) = (S 1100038 i) ∧ (S 36 i) = (S 1100039 i) ∧ (S 37 i) = (S 1100040 i) ∧ (S 38 i) = (S 1100041 i))) → (sv_R (S 1059 0) → ((S 1061 0) = (34 : Int)) ∧ (((¬ (S 1059 0) = (2000 : Int)) → (0 ≤ (S 1059 0) ∧ (S 1059 0) < 2000) ∧ ((S 1062 0) = (35 : Int)) ∧ ((S 1063 0) = (36 : Int)) ∧ ((S 1064 0) = (37 : Int)) ∧ ((S 1065 0) = (38 : Int)) ∧ (sv_R (S 1060 0) → (sv_R ((S 1059 0) + (1 : Int))) ∧ (sv_R (p1)) ∧ (sv_R (p2)) ∧ (sv_R (p3)) ∧ (sv_R (p4)) ∧ (sv_R (((S 1060 0)))) ∧ ((((S 1100000 0) = 0 ∧ (S 1061 0) = 34 ∧ (S 1062 0) = 35 ∧ (S 1063 0) = 36 ∧ (S 1064 0) = 37 ∧ (S 1065 0) = 38) → (0 ≤ ((S 1059 0) + (1 : Int)) ∧ ((S 1059 0) + (1 : Int)) ≤ 2000) → (∀ i : Int, 0 ≤ i → i < ((S 1059 0) + (1 : Int)) → (if i = (S 1059 0) then p1 else (S 34 i)) = (if i = (((S 1059 0) + (1 : Int)) - 1) then (p1) else (S 1100037 i)) ∧ (if i = (S 1059 0) then p2 else (S 35 i)) = (if i = (((S 1059 0) + (1 : Int)) - 1) then (p2) else (S 1100038 i)) ∧ (if i = (S 1059 0) then p3 else (S 36 i)) = (if i = (((S 1059 0) + (1 : Int)) - 1) then (p3) else (S 1100039 i)) ∧ (if i = (S 1059 0) then p4 else (S 37 i)) = (if i = (((S 1059 0) + (1 : Int)) - 1) then (p4) else (S 1100040 i)) ∧ (if i = (S 1059 0) then (S 1060 0) else (S 38 i)) = (if i = (((S 1059 0) + (1 : Int)) - 1) then (((S 1060 0))) else (S 1100041 i))) → sm_DY (S 1061 0) (S 1062 0) (S 1063 0) (S 1064 0) (S 1065 0) (S 1100000 0) ((S 1059 0) + (1 : Int)) (fun i' : Int => if i' = (S 1059 0) then p1 else (S 34) i') (fun i' : Int => if i' = (S 1059 0) then p2 else (S 35) i') (fun i' : Int => if i' = (S 1059 0) then p3 else (S 36) i') (fun i' : Int => if i' = (S 1059 0) then p4 else (S 37) i') (fun i' : Int => if i' = (S 1059 0) then (S 1060 0) else (S 38) i') (S 92) (S 93) (S 94) (S 95) (S 96) (S 97) (S 98) (S 99) (S 100) (S 101) (fun i' : Int => if i' = (((S 1059 0) + (1 : Int)) - 1) then (p1) else (S 1100037) i') (fun i' : Int => if i' = (((S 1059 0) + (1 : Int)) - 1) then (p2) else (S 1100038) i') (fun i' : Int => if i' = (((S 1059 0) + (1 : Int)) - 1) then (p3) else (S 1100039) i') (fun i' : Int => if i' = (((S 1059 0) + (1 : Int)) - 1) then (p4) else (S 1100040) i') (fun i' : Int => if i' = (((S 1059 0) + (1 : Int)) - 1) then (((S 1060 0))) else (S 1100041) i')) → ((((S 1100000 0) = 5 ∧ (S 1061 0) = 92 ∧ (S 1062 0) = 93 ∧ (S 1063 0) = 94 ∧ (S 1064 0) = 95 ∧ (S 1065 0) = 96) → (0 ≤ ((S 1059 0) + (1 : Int)) ∧ ((S 1059 0) + (1 : Int)) ≤ 4000) → (∀ i : Int, 0 ≤ i → i < ((S 1059 0) + (1 : Int)) → (S 92 i) = (if i = (((S 1059 0) + (1 : Int)) - 1) then (p1) else (S 1100037 i)) ∧ (S 93 i) = (if i = (((S 1059 0) + (1 : Int)) - 1) then (p2) else (S 1100038 i)) ∧ (S 94 i) = (if i = (((S 1059 0) + (1 : Int)) - 1) then (p3) else (S 1100039 i)) ∧ (S 95 i) = (if i = (((S 1059 0) + (1 : Int)) - 1) then (p4) else (S 1100040 i)) ∧ (S 96 i) = (if i = (((S 1059 0) + (1 : Int)) - 1) then (((S 1060 0))) else (S 1100041 i))) → sm_DY (S 1061 0) (S 1062 0) (S 1063 0) (S 1064 0) (S 1065 0) (S 1100000 0) ((S 1059 0) + (1 : Int)) (fun i' : Int => if i' = (S 1059 0) then p1 else (S 34) i') (fun i' : Int => if i' = (S 1059 0) then p2 else (S 35) i') (fun i' : Int => if i' = (S 1059 0) then p3 else (S 36) i') (fun i' : Int => if i' = (S 1059 0) then p4 else (S 37) i') (fun i' : Int => if i' = (S 1059 0) then (S 1060 0) else (S 38) i') (S 92) (S 93) (S 94) (S 95) (S 96) (S 97) (S 98) (S 99) (S 100) (S 101) (fun i' : Int => if i' = (((S 1059 0) + (1 : Int)) - 1) then (p1) else (S 1100037) i') (fun i' : Int => if i' = (((S 1059 0) + (1 : Int)) - 1) then (p2) else (S 1100038) i') (fun i' : Int => if i' = (((S 1059 0) + (1 : Int)) - 1) then (p3) else (S 1100039) i') (fun i' : Int => if i' = (((S 1059 0) + (1 : Int)) - 1) then (p4) else (S 1100040) i') (fun i' : Int => if i' = (((S 1059 0) + (1 : Int)) - 1) then (((S 1060 0))) else (S 1100041) i')) → (((S 1059 0) + (1 : Int)) = (S 1059 0) + 1 ∧ (S 1059 0) = (S 1059 0) ∧ sm_DY (S 1061 0) (S 1062 0) (S 1063 0) (S 1064 0) (S 1065 0) (S 1100000 0) ((S 1059 0) + (1 : Int)) (fun i' : Int => if i' = (S 1059 0) then p1 else (S 34) i') (fun i' : Int => if i' = (S 1059 0) then p2 else (S 35) i') (fun i' : Int => if i' = (S 1059 0) then p3 else (S 36) i') (fun i' : Int => if i' = (S 1059 0) then p4 else (S 37) i') (fun i' : Int => if i' = (S 1059 0) then (S 1060 0) else (S 38) i') (S 92) (S 93) (S 94) (S 95) (S 96) (S 97) (S 98) (S 99) (S 100) (S 101) (fun i' : Int => if i' = (((S 1059 0) + (1 : Int)) - 1) then (p1) else (S 1100037) i') (fun i' : Int => if i' = (((S 1059 0) + (1 : Int)) - 1) then (p2) else (S 1100038) i') (fun i' : Int => if i' = (((S 1059 0) + (1 : Int)) - 1) then (p3) else (S 1100039) i') (fun i' : Int => if i' = (((S 1059 0) + (1 : Int)) - 1) then (p4) else (S 1100040) i') (fun i' : Int => if i' = (((S 1059 0) + (1 : Int)) - 1) then (((S 1060 0))) else (S 1100041) i') ∧ sm_F1 (S 1100037) (fun i' : Int => if i' = (((S 1059 0) + (1 : Int)) - 1) then (p1) else (S 1100037) i') (S 1059 0) ∧ sm_F1 (S 1100038) (fun i' : Int => if i' = (((S 1059 0) + (1 : Int)) - 1) then (p2) else (S 1100038) i') (S 1059 0) ∧ sm_F1 (S 1100039) (fun i' : Int => if i' = (((S 1059 0) + (1 : Int)) - 1) then (p3) else (S 1100039) i') (S 1059 0) ∧ sm_F1 (S 1100040) (fun i' : Int => if i' = (((S 1059 0) + (1 : Int)) - 1) then (p4) else (S 1100040) i') (S 1059 0) ∧ sm_F1 (S 1100041) (fun i' : Int => if i' = (((S 1059 0) + (1 : Int)) - 1) then (((S 1060 0))) else (S 1100041) i') (S 1059 0) ∧ (if (((S 1059 0) + (1 : Int)) - 1) = (((S 1059 0) + (1 : Int)) - 1) then (p1) else (S 1100037 (((S 1059 0) + (1 : Int)) - 1))) = p1 ∧ (if (((S 1059 0) + (1 : Int)) - 1) = (((S 1059 0) + (1 : Int)) - 1) then (p2) else (S 1100038 (((S 1059 0) + (1 : Int)) - 1))) = p2 ∧ (if (((S 1059 0) + (1 : Int)) - 1) = (((S 1059 0) + (1 : Int)) - 1) then (p3) else (S 1100039 (((S 1059 0) + (1 : Int)) - 1))) = p3 ∧ (if (((S 1059 0) + (1 : Int)) - 1) = (((S 1059 0) + (1 : Int)) - 1) then (p4) else (S 1100040 (((S 1059 0) + (1 : Int)) - 1))) = p4 ∧ (if (((S 1059 0) + (1 : Int)) - 1) = (((S 1059 0) + (1 : Int)) - 1) then (((S 1060 0))) else (S 1100041 (((S 1059 0) + (1 : Int)) - 1))) = (S 1060 0)))))) ∧ ((¬ (¬ (S 1059 0) = (2000 : Int))) → ((S 1100000 0) = (0 : Int)) ∧ ((S 1062 0) = (35 : Int)) ∧ ((S 1063 0) = (36 : Int)) ∧ ((S 1064 0) = (37 : Int)) ∧ ((S 1065 0) = (38 : Int)) ∧ (0 ≤ (S 1059 0) ∧ (S 1059 0) < 4000) ∧ (sv_R (S 1060 0) → (sv_R ((S 1059 0) + (1 : Int))) ∧ (sv_R (p1)) ∧ (sv_R (p2)) ∧ (sv_R (p3)) ∧ (sv_R (p4)) ∧ (sv_R (((S 1060 0)))) ∧ ((((5 : Int) = 0 ∧ (92 : Int) = 34 ∧ (93 : Int) = 35 ∧ (94 : Int) = 36 ∧ (95 : Int) = 37 ∧ (96 : Int) = 38) → (0 ≤ ((S 1059 0) + (1 : Int)) ∧ ((S 1059 0) + (1 : Int)) ≤ 2000) → (∀ i : Int, 0 ≤ i → i < ((S 1059 0) + (1 : Int)) → (S 34 i) = (if i = (((S 1059 0) + (1 : Int)) - 1) then (p1) else (S 1100037 i)) ∧ (S 35 i) = (if i = (((S 1059 0) + (1 : Int)) - 1) then (p2) else (S 1100038 i)) ∧ (S 36 i) = (if i = (((S 1059 0) + (1 : Int)) - 1) then (p3) else (S 1100039 i)) ∧ (S 37 i) = (if i = (((S 1059 0) + (1 : Int)) - 1) then (p4) else (S 1100040 i)) ∧ (S 38 i) = (if i = (((S 1059 0) + (1 : Int)) - 1) then (((S 1060 0))) else (S 1100041 i))) → sm_DY (92 : Int) (93 : Int) (94 : Int) (95 : Int) (96 : Int) (5 : Int) ((S 1059 0) + (1 : Int)) (S 34) (S 35) (S 36) (S 37) (S 38) (fun i' : Int => if i' = (S 1059 0) then p1 else (fun i' : Int => if i' < (2000 : Int) then (S 34 i') else (0 : Int)) i') (fun i' : Int => if i' = (S 1059 0) then p2 else (fun i' : Int => if i' < (2000 : Int) then (S 35 i') else (0 : Int)) i') (fun i' : Int => if i' = (S 1059 0) then p3 else (fun i' : Int => if i' < (2000 : Int) then (S 36 i') else (0 : Int)) i') (fun i' : Int => if i' = (S 1059 0) then p4 else (fun i' : Int => if i' < (2000 : Int) then (S 37 i') else (0 : Int)) i') (fun i' : Int => if i' = (S 1059 0) then (S 1060 0) else (fun i' : Int => if i' < (2000 : Int) then (S 38 i') else (0 : Int)) i') (S 97) (S 98) (S 99) (S 100) (S 101) (fun i' : Int => if i' = (((S 1059 0) + (1 : Int)) - 1) then (p1) else (S 1100037) i') (fun i' : Int => if i' = (((S 1059 0) + (1 : Int)) - 1) then (p2) else (S 1100038) i') (fun i' : Int => if i' = (((S 1059 0) + (1 : Int)) - 1) then (p3) else (S 1100039) i') (fun i' : Int => if i' = (((S 1059 0) + (1 : Int)) - 1) then (p4) else (S 1100040) i') (fun i' : Int => if i' = (((S 1059 0) + (1 : Int)) - 1) then (((S 1060 0))) else (S 1100041) i')) → ((((5 : Int) = 5 ∧ (92 : Int) = 92 ∧ (93 : Int) = 93 ∧ (94 : Int) = 94 ∧ (95 : Int) = 95 ∧ (96 : Int) = 96) → (0 ≤ ((S 1059 0) + (1 : Int)) ∧ ((S 1059 0) + (1 : Int)) ≤ 4000) → (∀ i : Int, 0 ≤ i → i < ((S 1059 0) + (1 : Int)) → (if i = (S 1059 0) then p1 else (if i < (2000 : Int) then (S 34 i) else (0 : Int))) = (if i = (((S 1059 0) + (1 : Int)) - 1) then (p1) else (S 1100037 i)) ∧ (if i = (S 1059 0) then p2 else (if i < (2000 : Int) then (S 35 i) else (0 : Int))) = (if i = (((S 1059 0) + (1 : Int)) - 1) then (p2) else (S 1100038 i)) ∧ (if i = (S 1059 0) then p3 else (if i < (2000 : Int) then (S 36 i) else (0 : Int))) = (if i = (((S 1059 0) + (1 : Int)) - 1) then (p3) else (S 1100039 i)) ∧ (if i = (S 1059 0) then p4 else (if i < (2000 : Int) then (S 37 i) else (0 : Int))) = (if i = (((S 1059 0) + (1 : Int)) - 1) then (p4) else (S 1100040 i)) ∧ (if i = (S 1059 0) then (S 1060 0) else (if i < (2000 : Int) then (S 38 i) else (0 : Int))) = (if i = (((S 1059 0) + (1 : Int)) - 1) then (((S 1060 0))) else (S 1100041 i))) → sm_DY (92 : Int) (93 : Int) (94 : Int) (95 : Int) (96 : Int) (5 : Int) ((S 1059 0) + (1 : Int)) (S 34) (S 35) (S 36) (S 37) (S 38) (fun i' : Int => if i' = (S 1059 0) then p1 else (fun i' : Int => if i' < (2000 : Int) then (S 34 i') else (0 : Int)) i') (fun i' : Int => if i' = (S 1059 0) then p2 else (fun i' : Int => if i' < (2000 : Int) then (S 35 i') else (0 : Int)) i') (fun i' : Int => if i' = (S 1059 0) then p3 else (fun i' : Int => if i' < (2000 : Int) then (S 36 i') else (0 : Int)) i') (fun i' : Int => if i' = (S 1059 0) then p4 else (fun i' : Int => if i' < (2000 : Int) then (S 37 i') else (0 : Int)) i') (fun i' : Int => if i' = (S 1059 0) then (S 1060 0) else (fun i' : Int => if i' < (2000 : Int) then (S 38 i') else (0 : Int)) i') (S 97) (S 98) (S 99) (S 100) (S 101) (fun i' : Int => if i' = (((S 1059 0) + (1 : Int)) - 1) then (p1) else (S 1100037) i') (fun i' : Int => if i' = (((S 1059 0) + (1 : Int)) - 1) then (p2) else (S 1100038) i') (fun i' : Int => if i' = (((S 1059 0) + (1 : Int)) - 1) then (p3) else (S 1100039) i') (fun i' : Int => if i' = (((S 1059 0) + (1 : Int)) - 1) then (p4) else (S 1100040) i') (fun i' : Int => if i' = (((S 1059 0) + (1 : Int)) - 1) then (((S 1060 0))) else (S 1100041) i')) → (((S 1059 0) + (1 : Int)) = (S 1059 0) + 1 ∧ (S 1059 0) = (S 1059 0) ∧ sm_DY (92 : Int) (93 : Int) (94 : Int) (95 : Int) (96 : Int) (5 : Int) ((S 1059 0) + (1 : Int)) (S 34) (S 35) (S 36) (S 37) (S 38) (fun i' : Int => if i' = (S 1059 0) then p1 else (fun i' : Int => if i' < (2000 : Int) then (S 34 i') else (0 : Int)) i') (fun i' : Int => if i' = (S 1059 0) then p2 else (fun i' : Int => if i' < (2000 : Int) then (S 35 i') else (0 : Int)) i') (fun i' : Int => if i' = (S 1059 0) then p3 else (fun i' : Int => if i' < (2000 : Int) then (S 36 i') else (0 : Int)) i') (fun i' : Int => if i' = (S 1059 0) then p4 else (fun i' : Int => if i' < (2000 : Int) then (S 37 i') else (0 : Int)) i') (fun i' : Int => if i' = (S 1059 0) then (S 1060 0) else (fun i' : Int => if i' < (2000 : Int) then (S 38 i') else (0 : Int)) i') (S 97) (S 98) (S 99) (S 100) (S 101) (fun i' : Int => if i' = (((S 1059 0) + (1 : Int)) - 1) then (p1) else (S 1100037) i') (fun i' : Int => if i' = (((S 1059 0) + (1 : Int)) - 1) then (p2) else (S 1100038) i') (fun i' : Int => if i' = (((S 1059 0) + (1 : Int)) - 1) then (p3) else (S 1100039) i') (fun i' : Int => if i' = (((S 1059 0) + (1 : Int)) - 1) then (p4) else (S 1100040) i') (fun i' : Int => if i' = (((S 1059 0) + (1 : Int)) - 1) then (((S 1060 0))) else (S 1100041) i') ∧ sm_F1 (S 1100037) (fun i' : Int => if i' = (((S 1059 0) + (1 : Int)) - 1) then (p1) else (S 1100037) i') (S 1059 0) ∧ sm_F1 (S 1100038) (fun i' : Int => if i' = (((S 1059 0) + (1 : Int)) - 1) then (p2) else (S 1100038) i') (S 1059 0) ∧ sm_F1 (S 1100039) (fun i' : Int => if i' = (((S 1059 0) + (1 : Int)) - 1) then (p3) else (S 1100039) i') (S 1059 0) ∧ sm_F1 (S 1100040) (fun i' : Int => if i' = (((S 1059 0) + (1 : Int)) - 1) then (p4) else (S 1100040) i') (S 1059 0) ∧ sm_F1 (S 1100041) (fun i' : Int => if i' = (((S 1059 0) + (1 : Int)) - 1) then (((S 1060 0))) else (S 1100041) i') (S 1059 0) ∧ (if (((S 1059 0) + (1 : Int)) - 1) = (((S 1059 0) + (1 : Int)) - 1) then (p1) else (S 1100037 (((S 1059 0) + (1 : Int)) - 1))) = p1 ∧ (if (((S 1059 0) + (1 : Int)) - 1) = (((S 1059 0) + (1 : Int)) - 1) then (p2) else (S 1100038 (((S 1059 0) + (1 : Int)) - 1))) = p2 ∧ (if (((S 1059 0) + (1 : Int)) - 1) = (((S 1059 0) + (1 : Int)) - 1) then (p3) else (S 1100039 (((S 1059 0) + (1 : Int)) - 1))) = p3 ∧ (if (((S 1059 0) + (1 : Int)) - 1) = (((S 1059 0) + (1 : Int)) - 1) then (p4) else (S 1100040 (((S 1059 0) + (1 : Int)) - 1))) = p4 ∧ (if (((S 1059 0) + (1 : Int)) - 1) = (((S 1059 0) + (1 : Int)) - 1) then (((S 1060 0))) else (S 1100041 (((S 1059 0) + (1 : Int)) - 1))) = (S 1060 0)))))))) := by
  intro p1
  intro p2
  intro p3
  intro p4
  intro S
  intro h1_
  intro h2_
  intro h3_
  intro h4_
  intro h5_
  rintro ⟨h6_, ⟨h7_, ⟨h8_, ⟨h9_, ⟨h10_, ⟨h11_, ⟨h12_, ⟨h13_, ⟨h14_, ⟨h15_, ⟨h16_, h17_⟩⟩⟩⟩⟩⟩⟩⟩⟩⟩⟩
  intro h18_
  refine ⟨h7_, ?_⟩
  refine ⟨?_, ?_⟩
  · skip
    intro h19_
    refine ⟨(la_wrapIn0_1 h12_ (la_wrapIn0_0 h13_ h19_)), ?_⟩
    refine ⟨h8_, ?_⟩
    refine ⟨h9_, ?_⟩
    refine ⟨h10_, ?_⟩
    refine ⟨h11_, ?_⟩
    intro h20_
    refine ⟨(la_wrapIn0_2 h12_ (la_wrapIn0_0 h13_ h19_)), ?_⟩
    refine ⟨h2_, ?_⟩
    refine ⟨h3_, ?_⟩
    refine ⟨h4_, ?_⟩
    refine ⟨h5_, ?_⟩
    refine ⟨h20_, ?_⟩
    intro h21_
    have h22_ := (h21_ (la_wrapIn0_3 h6_ h7_ h8_ h9_ h10_ h11_))
    have h23_ := (h22_ (la_wrapIn0_4 h12_ (la_wrapIn0_0 h13_ h19_)))
    have h81_ : (∀ i : Int, 0 ≤ i → i < S 1059 0 + 1 → (if i = S 1059 0 then p1 else S 34 i) = (if i = S 1059 0 + 1 - 1 then p1 else S 1100037 i) ∧ (if i = S 1059 0 then p2 else S 35 i) = (if i = S 1059 0 + 1 - 1 then p2 else S 1100038 i) ∧ (if i = S 1059 0 then p3 else S 36 i) = (if i = S 1059 0 + 1 - 1 then p3 else S 1100039 i) ∧ (if i = S 1059 0 then p4 else S 37 i) = (if i = S 1059 0 + 1 - 1 then p4 else S 1100040 i) ∧ (if i = S 1059 0 then S 1060 0 else S 38 i) = (if i = S 1059 0 + 1 - 1 then S 1060 0 else S 1100041 i)) := by
      intro i
      intro h24_
      intro h25_
      refine ⟨?_, ?_⟩
      · skip
        have h26_ := ((h17_ i) h24_)
        by_cases c27_ : i = S 1059 0
        · skip
          have e28_ : (if i = S 1059 0 then p1 else S 34 i : Int) = p1 := if_pos c27_
          have e29_ : (if i = S 1059 0 + 1 - 1 then p1 else S 1100037 i : Int) = p1 := if_pos (la_wrapIn0_5 h25_ c27_)
          exact (la_wrapIn0_7 e28_ e29_)
        · skip
          have e30_ : (if i = S 1059 0 then p1 else S 34 i : Int) = S 34 i := if_neg c27_
          have e31_ : (if i = S 1059 0 + 1 - 1 then p1 else S 1100037 i : Int) = S 1100037 i := if_neg (la_wrapIn0_10 (la_wrapIn0_9 (la_wrapIn0_8 h25_) c27_))
          obtain ⟨h32_, ⟨h33_, ⟨h34_, ⟨h35_, h36_⟩⟩⟩⟩ := (h26_ (la_wrapIn0_9 (la_wrapIn0_8 h25_) c27_))
          exact (la_wrapIn0_11 e30_ e31_ h32_)
      refine ⟨?_, ?_⟩
      · skip
        have h37_ := ((h17_ i) h24_)
        by_cases c38_ : i = S 1059 0
        · skip
          have e39_ : (if i = S 1059 0 + 1 - 1 then p2 else S 1100038 i : Int) = p2 := if_pos (la_wrapIn0_5 h25_ c38_)
          have e40_ : (if i = S 1059 0 then p2 else S 35 i : Int) = p2 := if_pos c38_
          exact (la_wrapIn0_12 e39_ e40_)
        · skip
          have e41_ : (if i = S 1059 0 then p2 else S 35 i : Int) = S 35 i := if_neg c38_
          have e42_ : (if i = S 1059 0 + 1 - 1 then p2 else S 1100038 i : Int) = S 1100038 i := if_neg (la_wrapIn0_10 (la_wrapIn0_9 (la_wrapIn0_8 h25_) c38_))
          obtain ⟨h43_, ⟨h44_, ⟨h45_, ⟨h46_, h47_⟩⟩⟩⟩ := (h37_ (la_wrapIn0_9 (la_wrapIn0_8 h25_) c38_))
          exact (la_wrapIn0_11 e41_ e42_ h44_)
      refine ⟨?_, ?_⟩
      · skip
        have h48_ := ((h17_ i) h24_)
        by_cases c49_ : i = S 1059 0
        · skip
          have e50_ : (if i = S 1059 0 then p3 else S 36 i : Int) = p3 := if_pos c49_
          have e51_ : (if i = S 1059 0 + 1 - 1 then p3 else S 1100039 i : Int) = p3 := if_pos (la_wrapIn0_5 h25_ c49_)
          exact (la_wrapIn0_7 e50_ e51_)
        · skip
          have e52_ : (if i = S 1059 0 then p3 else S 36 i : Int) = S 36 i := if_neg c49_
          have e53_ : (if i = S 1059 0 + 1 - 1 then p3 else S 1100039 i : Int) = S 1100039 i := if_neg (la_wrapIn0_10 (la_wrapIn0_9 (la_wrapIn0_8 h25_) c49_))
          obtain ⟨h54_, ⟨h55_, ⟨h56_, ⟨h57_, h58_⟩⟩⟩⟩ := (h48_ (la_wrapIn0_9 (la_wrapIn0_8 h25_) c49_))
          exact (la_wrapIn0_11 e52_ e53_ h56_)
      refine ⟨?_, ?_⟩
      · skip
        have h59_ := ((h17_ i) h24_)
        by_cases c60_ : i = S 1059 0
        · skip
          have e61_ : (if i = S 1059 0 + 1 - 1 then p4 else S 1100040 i : Int) = p4 := if_pos (la_wrapIn0_5 h25_ c60_)
          have e62_ : (if i = S 1059 0 then p4 else S 37 i : Int) = p4 := if_pos c60_
          exact (la_wrapIn0_12 e61_ e62_)
        · skip
          have e63_ : (if i = S 1059 0 then p4 else S 37 i : Int) = S 37 i := if_neg c60_
          have e64_ : (if i = S 1059 0 + 1 - 1 then p4 else S 1100040 i : Int) = S 1100040 i := if_neg (la_wrapIn0_10 (la_wrapIn0_9 (la_wrapIn0_8 h25_) c60_))
          obtain ⟨h65_, ⟨h66_, ⟨h67_, ⟨h68_, h69_⟩⟩⟩⟩ := (h59_ (la_wrapIn0_9 (la_wrapIn0_8 h25_) c60_))
          exact (la_wrapIn0_11 e63_ e64_ h68_)
      have h70_ := ((h17_ i) h24_)
      by_cases c71_ : i = S 1059 0
      · skip
        have e72_ : (if i = S 1059 0 then S 1060 0 else S 38 i : Int) = S 1060 0 := if_pos c71_
        have e73_ : (if i = S 1059 0 + 1 - 1 then S 1060 0 else S 1100041 i : Int) = S 1060 0 := if_pos (la_wrapIn0_5 h25_ c71_)
        exact (la_wrapIn0_7 e72_ e73_)
      · skip
        have e74_ : (if i = S 1059 0 then S 1060 0 else S 38 i : Int) = S 38 i := if_neg c71_
        have e75_ : (if i = S 1059 0 + 1 - 1 then S 1060 0 else S 1100041 i : Int) = S 1100041 i := if_neg (la_wrapIn0_10 (la_wrapIn0_9 (la_wrapIn0_8 h25_) c71_))
        obtain ⟨h76_, ⟨h77_, ⟨h78_, ⟨h79_, h80_⟩⟩⟩⟩ := (h70_ (la_wrapIn0_9 (la_wrapIn0_8 h25_) c71_))
        exact (la_wrapIn0_11 e74_ e75_ h80_)
    have h82_ := (h23_ h81_)
    intro h83_
    refine ⟨la_wrapIn0_14, ?_⟩
    refine ⟨la_wrapIn0_15, ?_⟩
    refine ⟨h82_, ?_⟩
    refine ⟨(sm_F1_up sm_F1_rf la_wrapIn0_16), ?_⟩
    refine ⟨(sm_F1_up sm_F1_rf la_wrapIn0_16), ?_⟩
    refine ⟨(sm_F1_up sm_F1_rf la_wrapIn0_16), ?_⟩
    refine ⟨(sm_F1_up sm_F1_rf la_wrapIn0_16), ?_⟩
    refine ⟨(sm_F1_up sm_F1_rf la_wrapIn0_16), ?_⟩
    refine ⟨?_, ?_⟩
    · skip
      have h84_ := ((h17_ (S 1059 0 + 1 - 1)) (la_wrapIn0_17 h12_))
      have e85_ : (if S 1059 0 + 1 - 1 = S 1059 0 + 1 - 1 then p1 else S 1100037 (S 1059 0 + 1 - 1) : Int) = p1 := if_pos la_wrapIn0_18
      exact e85_
    refine ⟨?_, ?_⟩
    · skip
      have h86_ := ((h17_ (S 1059 0 + 1 - 1)) (la_wrapIn0_17 h12_))
      have e87_ : (if S 1059 0 + 1 - 1 = S 1059 0 + 1 - 1 then p2 else S 1100038 (S 1059 0 + 1 - 1) : Int) = p2 := if_pos la_wrapIn0_18
      exact e87_
    refine ⟨?_, ?_⟩
    · skip
      have h88_ := ((h17_ (S 1059 0 + 1 - 1)) (la_wrapIn0_17 h12_))
      have e89_ : (if S 1059 0 + 1 - 1 = S 1059 0 + 1 - 1 then p3 else S 1100039 (S 1059 0 + 1 - 1) : Int) = p3 := if_pos la_wrapIn0_18
      exact e89_
    refine ⟨?_, ?_⟩
    · skip
      have h90_ := ((h17_ (S 1059 0 + 1 - 1)) (la_wrapIn0_17 h12_))
      have e91_ : (if S 1059 0 + 1 - 1 = S 1059 0 + 1 - 1 then p4 else S 1100040 (S 1059 0 + 1 - 1) : Int) = p4 := if_pos la_wrapIn0_18
      exact e91_
    have h92_ := ((h17_ (S 1059 0 + 1 - 1)) (la_wrapIn0_17 h12_))
    have e93_ : (if S 1059 0 + 1 - 1 = S 1059 0 + 1 - 1 then S 1060 0 else S 1100041 (S 1059 0 + 1 - 1) : Int) = S 1060 0 := if_pos la_wrapIn0_18
    exact e93_
  intro h94_
  refine ⟨h6_, ?_⟩
  refine ⟨h8_, ?_⟩
  refine ⟨h9_, ?_⟩
  refine ⟨h10_, ?_⟩
  refine ⟨h11_, ?_⟩
  refine ⟨(la_wrapIn0_20 h13_ h94_), ?_⟩
  intro h95_
  refine ⟨(la_wrapIn0_21 h13_ h94_), ?_⟩
  refine ⟨h2_, ?_⟩
  refine ⟨h3_, ?_⟩
  refine ⟨h4_, ?_⟩
  refine ⟨h5_, ?_⟩
  refine ⟨h95_, ?_⟩
  intro h96_
  intro h97_
  have h98_ := (h97_ la_wrapIn0_23)
  have h99_ := (h98_ (la_wrapIn0_24 h13_ h94_))
  have h167_ : (∀ i : Int, 0 ≤ i → i < S 1059 0 + 1 → (if i = S 1059 0 then p1 else (if i < 2000 then S 34 i else 0)) = (if i = S 1059 0 + 1 - 1 then p1 else S 1100037 i) ∧ (if i = S 1059 0 then p2 else (if i < 2000 then S 35 i else 0)) = (if i = S 1059 0 + 1 - 1 then p2 else S 1100038 i) ∧ (if i = S 1059 0 then p3 else (if i < 2000 then S 36 i else 0)) = (if i = S 1059 0 + 1 - 1 then p3 else S 1100039 i) ∧ (if i = S 1059 0 then p4 else (if i < 2000 then S 37 i else 0)) = (if i = S 1059 0 + 1 - 1 then p4 else S 1100040 i) ∧ (if i = S 1059 0 then S 1060 0 else (if i < 2000 then S 38 i else 0)) = (if i = S 1059 0 + 1 - 1 then S 1060 0 else S 1100041 i)) := by
    intro iv1
    intro h100_
    intro h101_
    refine ⟨?_, ?_⟩
    · skip
      have h102_ := ((h17_ iv1) h100_)
      by_cases c103_ : iv1 = S 1059 0
      · skip
        have e104_ : (if iv1 = S 1059 0 + 1 - 1 then p1 else S 1100037 iv1 : Int) = p1 := if_pos (la_wrapIn0_5 h101_ c103_)
        have e105_ : (if iv1 < 2000 then S 34 iv1 else 0 : Int) = 0 := if_neg (la_wrapIn0_25 h94_ c103_)
        have e106_ : (if iv1 = S 1059 0 then p1 else (if iv1 < 2000 then S 34 iv1 else 0) : Int) = p1 := if_pos c103_
        exact (la_wrapIn0_12 e104_ e106_)
      · skip
        have e107_ : (if iv1 = S 1059 0 then p1 else (if iv1 < 2000 then S 34 iv1 else 0) : Int) = (if iv1 < 2000 then S 34 iv1 else 0) := if_neg c103_
        have e108_ : (if iv1 = S 1059 0 + 1 - 1 then p1 else S 1100037 iv1 : Int) = S 1100037 iv1 := if_neg (la_wrapIn0_10 (la_wrapIn0_9 (la_wrapIn0_8 h101_) c103_))
        have e109_ : (if iv1 < 2000 then S 34 iv1 else 0 : Int) = S 34 iv1 := if_pos (la_wrapIn0_26 h94_ (la_wrapIn0_9 (la_wrapIn0_8 h101_) c103_))
        obtain ⟨h110_, ⟨h111_, ⟨h112_, ⟨h113_, h114_⟩⟩⟩⟩ := (h102_ (la_wrapIn0_9 (la_wrapIn0_8 h101_) c103_))
        exact (la_wrapIn0_27 e107_ e108_ e109_ h110_)
    refine ⟨?_, ?_⟩
    · skip
      have h115_ := ((h17_ iv1) h100_)
      by_cases c116_ : iv1 = S 1059 0
      · skip
        have e117_ : (if iv1 < 2000 then S 35 iv1 else 0 : Int) = 0 := if_neg (la_wrapIn0_25 h94_ c116_)
        have e118_ : (if iv1 = S 1059 0 then p2 else (if iv1 < 2000 then S 35 iv1 else 0) : Int) = p2 := if_pos c116_
        have e119_ : (if iv1 = S 1059 0 + 1 - 1 then p2 else S 1100038 iv1 : Int) = p2 := if_pos (la_wrapIn0_5 h101_ c116_)
        exact (la_wrapIn0_7 e118_ e119_)
      · skip
        have e120_ : (if iv1 = S 1059 0 then p2 else (if iv1 < 2000 then S 35 iv1 else 0) : Int) = (if iv1 < 2000 then S 35 iv1 else 0) := if_neg c116_
        have e121_ : (if iv1 < 2000 then S 35 iv1 else 0 : Int) = S 35 iv1 := if_pos (la_wrapIn0_28 h13_ (la_wrapIn0_9 (la_wrapIn0_8 h101_) c116_))
        have e122_ : (if iv1 = S 1059 0 + 1 - 1 then p2 else S 1100038 iv1 : Int) = S 1100038 iv1 := if_neg (la_wrapIn0_10 (la_wrapIn0_9 (la_wrapIn0_8 h101_) c116_))
        obtain ⟨h123_, ⟨h124_, ⟨h125_, ⟨h126_, h127_⟩⟩⟩⟩ := (h115_ (la_wrapIn0_9 (la_wrapIn0_8 h101_) c116_))
        exact (la_wrapIn0_29 e120_ e121_ e122_ h124_)
    refine ⟨?_, ?_⟩
    · skip
      have h128_ := ((h17_ iv1) h100_)
      by_cases c129_ : iv1 = S 1059 0
      · skip
        have e130_ : (if iv1 = S 1059 0 then p3 else (if iv1 < 2000 then S 36 iv1 else 0) : Int) = p3 := if_pos c129_
        have e131_ : (if iv1 < 2000 then S 36 iv1 else 0 : Int) = 0 := if_neg (la_wrapIn0_25 h94_ c129_)
        have e132_ : (if iv1 = S 1059 0 + 1 - 1 then p3 else S 1100039 iv1 : Int) = p3 := if_pos (la_wrapIn0_5 h101_ c129_)
        exact (la_wrapIn0_7 e130_ e132_)
      · skip
        have e133_ : (if iv1 = S 1059 0 then p3 else (if iv1 < 2000 then S 36 iv1 else 0) : Int) = (if iv1 < 2000 then S 36 iv1 else 0) := if_neg c129_
        have e134_ : (if iv1 < 2000 then S 36 iv1 else 0 : Int) = S 36 iv1 := if_pos (la_wrapIn0_28 h13_ (la_wrapIn0_9 (la_wrapIn0_8 h101_) c129_))
        have e135_ : (if iv1 = S 1059 0 + 1 - 1 then p3 else S 1100039 iv1 : Int) = S 1100039 iv1 := if_neg (la_wrapIn0_10 (la_wrapIn0_9 (la_wrapIn0_8 h101_) c129_))
        obtain ⟨h136_, ⟨h137_, ⟨h138_, ⟨h139_, h140_⟩⟩⟩⟩ := (h128_ (la_wrapIn0_9 (la_wrapIn0_8 h101_) c129_))
        exact (la_wrapIn0_29 e133_ e134_ e135_ h138_)
    refine ⟨?_, ?_⟩
    · skip
      have h141_ := ((h17_ iv1) h100_)
      by_cases c142_ : iv1 = S 1059 0
      · skip
        have e143_ : (if iv1 = S 1059 0 + 1 - 1 then p4 else S 1100040 iv1 : Int) = p4 := if_pos (la_wrapIn0_5 h101_ c142_)
        have e144_ : (if iv1 = S 1059 0 then p4 else (if iv1 < 2000 then S 37 iv1 else 0) : Int) = p4 := if_pos c142_
        have e145_ : (if iv1 < 2000 then S 37 iv1 else 0 : Int) = 0 := if_neg (la_wrapIn0_25 h94_ c142_)
        exact (la_wrapIn0_12 e143_ e144_)
      · skip
        have e146_ : (if iv1 = S 1059 0 then p4 else (if iv1 < 2000 then S 37 iv1 else 0) : Int) = (if iv1 < 2000 then S 37 iv1 else 0) := if_neg c142_
        have e147_ : (if iv1 = S 1059 0 + 1 - 1 then p4 else S 1100040 iv1 : Int) = S 1100040 iv1 := if_neg (la_wrapIn0_10 (la_wrapIn0_9 (la_wrapIn0_8 h101_) c142_))
        have e148_ : (if iv1 < 2000 then S 37 iv1 else 0 : Int) = S 37 iv1 := if_pos (la_wrapIn0_26 h94_ (la_wrapIn0_9 (la_wrapIn0_8 h101_) c142_))
        obtain ⟨h149_, ⟨h150_, ⟨h151_, ⟨h152_, h153_⟩⟩⟩⟩ := (h141_ (la_wrapIn0_9 (la_wrapIn0_8 h101_) c142_))
        exact (la_wrapIn0_27 e146_ e147_ e148_ h152_)
    have h154_ := ((h17_ iv1) h100_)
    by_cases c155_ : iv1 = S 1059 0
    · skip
      have e156_ : (if iv1 = S 1059 0 then S 1060 0 else (if iv1 < 2000 then S 38 iv1 else 0) : Int) = S 1060 0 := if_pos c155_
      have e157_ : (if iv1 = S 1059 0 + 1 - 1 then S 1060 0 else S 1100041 iv1 : Int) = S 1060 0 := if_pos (la_wrapIn0_5 h101_ c155_)
      have e158_ : (if iv1 < 2000 then S 38 iv1 else 0 : Int) = 0 := if_neg (la_wrapIn0_25 h94_ c155_)
      exact (la_wrapIn0_7 e156_ e157_)
    · skip
      have e159_ : (if iv1 = S 1059 0 then S 1060 0 else (if iv1 < 2000 then S 38 iv1 else 0) : Int) = (if iv1 < 2000 then S 38 iv1 else 0) := if_neg c155_
      have e160_ : (if iv1 = S 1059 0 + 1 - 1 then S 1060 0 else S 1100041 iv1 : Int) = S 1100041 iv1 := if_neg (la_wrapIn0_10 (la_wrapIn0_9 (la_wrapIn0_8 h101_) c155_))
      have e161_ : (if iv1 < 2000 then S 38 iv1 else 0 : Int) = S 38 iv1 := if_pos (la_wrapIn0_26 h94_ (la_wrapIn0_9 (la_wrapIn0_8 h101_) c155_))
      obtain ⟨h162_, ⟨h163_, ⟨h164_, ⟨h165_, h166_⟩⟩⟩⟩ := (h154_ (la_wrapIn0_9 (la_wrapIn0_8 h101_) c155_))
      exact (la_wrapIn0_27 e159_ e160_ e161_ h166_)
  have h168_ := (h99_ h167_)
  refine ⟨la_wrapIn0_14, ?_⟩
  refine ⟨la_wrapIn0_15, ?_⟩
  refine ⟨h168_, ?_⟩
  refine ⟨(sm_F1_up sm_F1_rf la_wrapIn0_16), ?_⟩
  refine ⟨(sm_F1_up sm_F1_rf la_wrapIn0_16), ?_⟩
  refine ⟨(sm_F1_up sm_F1_rf la_wrapIn0_16), ?_⟩
  refine ⟨(sm_F1_up sm_F1_rf la_wrapIn0_16), ?_⟩
  refine ⟨(sm_F1_up sm_F1_rf la_wrapIn0_16), ?_⟩
  refine ⟨?_, ?_⟩
  · skip
    have h169_ := ((h17_ (S 1059 0 + 1 - 1)) (la_wrapIn0_30 h94_))
    have e170_ : (if S 1059 0 + 1 - 1 = S 1059 0 + 1 - 1 then p1 else S 1100037 (S 1059 0 + 1 - 1) : Int) = p1 := if_pos la_wrapIn0_18
    exact e170_
  refine ⟨?_, ?_⟩
  · skip
    have h171_ := ((h17_ (S 1059 0 + 1 - 1)) (la_wrapIn0_30 h94_))
    have e172_ : (if S 1059 0 + 1 - 1 = S 1059 0 + 1 - 1 then p2 else S 1100038 (S 1059 0 + 1 - 1) : Int) = p2 := if_pos la_wrapIn0_18
    exact e172_
  refine ⟨?_, ?_⟩
  · skip
    have h173_ := ((h17_ (S 1059 0 + 1 - 1)) (la_wrapIn0_30 h94_))
    have e174_ : (if S 1059 0 + 1 - 1 = S 1059 0 + 1 - 1 then p3 else S 1100039 (S 1059 0 + 1 - 1) : Int) = p3 := if_pos la_wrapIn0_18
    exact e174_
  refine ⟨?_, ?_⟩
  · skip
    have h175_ := ((h17_ (S 1059 0 + 1 - 1)) (la_wrapIn0_30 h94_))
    have e176_ : (if S 1059 0 + 1 - 1 = S 1059 0 + 1 - 1 then p4 else S 1100040 (S 1059 0 + 1 - 1) : Int) = p4 := if_pos la_wrapIn0_18
    exact e176_
  have h177_ := ((h17_ (S 1059 0 + 1 - 1)) (la_wrapIn0_30 h94_))
  have e178_ : (if S 1059 0 + 1 - 1 = S 1059 0 + 1 - 1 then S 1060 0 else S 1100041 (S 1059 0 + 1 - 1) : Int) = S 1060 0 := if_pos la_wrapIn0_18
  exact e178_
set_option maxRecDepth 8000 in
set_option maxHeartbeats 8000000 in
theorem t_wrapIn0 : ∀ (p1 : Int) (p2 : Int) (p3 : Int) (p4 : Int) (S : sv_S), sm_ok S → sv_R p1 → sv_R p2 → sv_R p3 → sv_R p4 → ((S 1100000 0) = 0 ∧ (S 1061 0) = 34 ∧ (S 1062 0) = 35 ∧ (S 1063 0) = 36 ∧ (S 1064 0) = 37 ∧ (S 1065 0) = 38 ∧ 0 ≤ (S 1059 0) ∧ (S 1059 0) ≤ 2000 ∧ (S 1059 0) < 8000 ∧ -1 ≤ (S 1060 0) ∧ (S 1060 0) < (S 1059 0) ∧ (∀ i : Int, 0 ≤ i → i < (S 1059 0) → (S 34 i) = (S 1100037 i) ∧ (S 35 i) = (S 1100038 i) ∧ (S 36 i) = (S 1100039 i) ∧ (S 37 i) = (S 1100040 i) ∧ (S 38 i) = (S 1100041 i))) → sv_T sm_XS sm_cs sm_L sm_sh 4 (q_wrapIn0 p1 p2 p3 p4 S) 93 0 (lv_args 0 [.ref 0, sv_I p1, sv_I p2, sv_I p3, sv_I p4]) [] S := by
  intro p1 p2 p3 p4 S hok hp1 hp2 hp3 hp4 hpre
  have h := f_wrapIn0 p1 p2 p3 p4 S hok hp1 hp2 hp3 hp4 hpre
  have hM := sm_h93
  show sv_T sm_XS sm_cs sm_L sm_sh 4 (q_wrapIn0 p1 p2 p3 p4 S) 93 0 [(0, .ref 0), (1, sv_I p1), (2, sv_I p2), (3, sv_I p3), (4, sv_I p4)] [] S
  refine sv_aload_n hM dX12_wrapIn_0 rfl rfl ?_
  have k1 : sv_R (S 1059 0) := sm_okI hok sm_r1059 0
  have h := h k1
  refine sv_getI hM dX12_wrapIn_1 sm_fl_637 (sm_a0 _) sm_k59 rfl (x := (S 1059 0)) rfl ?_
  refine sv_aload_n hM dX12_wrapIn_4 rfl rfl ?_
  obtain ⟨o2, h⟩ := h
  refine sv_getY hM dX12_wrapIn_5 sm_fl_113 (sm_a0 _) (j := 34) ((sm_k61 _).trans (congrArg (fun z : Int => some (Value.ref z.toNat)) o2)) rfl ?_
  refine sv_alen hM dX12_wrapIn_8 (sm_a34 _) (by decide) (r := (2000 : Int)) rfl rfl ?_
  refine sv_icmp_ne hM dX12_wrapIn_9 k1 (⟨by decide, by decide⟩ : sv_R (2000 : Int)) (t := 67) rfl rfl (fun hc => ?_) (fun hc => ?_)
  · have h := h.1 (hc)
    refine sv_aload_n hM dX12_wrapIn_67 rfl rfl ?_
    refine sv_getY hM dX12_wrapIn_68 sm_fl_113 (sm_a0 _) (j := 34) ((sm_k61 _).trans (congrArg (fun z : Int => some (Value.ref z.toNat)) o2)) rfl ?_
    refine sv_aload_n hM dX12_wrapIn_71 rfl rfl ?_
    refine sv_getI hM dX12_wrapIn_72 sm_fl_637 (sm_a0 _) sm_k59 rfl (x := (S 1059 0)) rfl ?_
    refine sv_iload_n hM dX12_wrapIn_75 rfl rfl ?_
    obtain ⟨o3, h⟩ := h
    refine sv_iast sm_X hM dX12_wrapIn_76 (sm_a34 _) (by decide) o3.1 o3.2 rfl ?_
    have ok4 : sm_ok (sv_up S 34 (S 1059 0) p1) := sm_upI hok sm_r34 hp1
    have md5 : sv_mod [1059, 1060, 1100000, 1061, 1062, 1063, 1064, 1065, 34, 35, 36, 37, 38, 92, 93, 94, 95, 96, 97, 98, 99, 100, 101, 1100037, 1100038, 1100039, 1100040, 1100041] S (sv_up S 34 (S 1059 0) p1) := sv_mod.up sv_mod.rf (by decide)
    refine sv_aload_n hM dX12_wrapIn_77 rfl rfl ?_
    obtain ⟨o6, h⟩ := h
    refine sv_getY hM dX12_wrapIn_78 sm_fl_116 (sm_a0 _) (j := 35) ((sm_k62 _).trans (congrArg (fun z : Int => some (Value.ref z.toNat)) o6)) rfl ?_
    refine sv_aload_n hM dX12_wrapIn_81 rfl rfl ?_
    refine sv_getI hM dX12_wrapIn_82 sm_fl_637 (sm_a0 _) sm_k59 rfl (x := (S 1059 0)) rfl ?_
    refine sv_iload_n hM dX12_wrapIn_85 rfl rfl ?_
    refine sv_iast sm_X hM dX12_wrapIn_86 (sm_a35 _) (by decide) o3.1 o3.2 rfl ?_
    have ok7 : sm_ok (sv_up (sv_up S 34 (S 1059 0) p1) 35 (S 1059 0) p2) := sm_upI ok4 sm_r35 hp2
    have md8 : sv_mod [1059, 1060, 1100000, 1061, 1062, 1063, 1064, 1065, 34, 35, 36, 37, 38, 92, 93, 94, 95, 96, 97, 98, 99, 100, 101, 1100037, 1100038, 1100039, 1100040, 1100041] S (sv_up (sv_up S 34 (S 1059 0) p1) 35 (S 1059 0) p2) := sv_mod.up md5 (by decide)
    refine sv_aload_n hM dX12_wrapIn_87 rfl rfl ?_
    obtain ⟨o9, h⟩ := h
    refine sv_getY hM dX12_wrapIn_88 sm_fl_119 (sm_a0 _) (j := 36) ((sm_k63 _).trans (congrArg (fun z : Int => some (Value.ref z.toNat)) o9)) rfl ?_
    refine sv_aload_n hM dX12_wrapIn_91 rfl rfl ?_
    refine sv_getI hM dX12_wrapIn_92 sm_fl_637 (sm_a0 _) sm_k59 rfl (x := (S 1059 0)) rfl ?_
    refine sv_iload_n hM dX12_wrapIn_95 rfl rfl ?_
    refine sv_iast sm_X hM dX12_wrapIn_96 (sm_a36 _) (by decide) o3.1 o3.2 rfl ?_
    have ok10 : sm_ok (sv_up (sv_up (sv_up S 34 (S 1059 0) p1) 35 (S 1059 0) p2) 36 (S 1059 0) p3) := sm_upI ok7 sm_r36 hp3
    have md11 : sv_mod [1059, 1060, 1100000, 1061, 1062, 1063, 1064, 1065, 34, 35, 36, 37, 38, 92, 93, 94, 95, 96, 97, 98, 99, 100, 101, 1100037, 1100038, 1100039, 1100040, 1100041] S (sv_up (sv_up (sv_up S 34 (S 1059 0) p1) 35 (S 1059 0) p2) 36 (S 1059 0) p3) := sv_mod.up md8 (by decide)
    refine sv_aload_n hM dX12_wrapIn_97 rfl rfl ?_
    obtain ⟨o12, h⟩ := h
    refine sv_getY hM dX12_wrapIn_98 sm_fl_122 (sm_a0 _) (j := 37) ((sm_k64 _).trans (congrArg (fun z : Int => some (Value.ref z.toNat)) o12)) rfl ?_
    refine sv_aload_n hM dX12_wrapIn_101 rfl rfl ?_
    refine sv_getI hM dX12_wrapIn_102 sm_fl_637 (sm_a0 _) sm_k59 rfl (x := (S 1059 0)) rfl ?_
    refine sv_iload hM dX12_wrapIn_105 rfl rfl ?_
    refine sv_iast sm_X hM dX12_wrapIn_107 (sm_a37 _) (by decide) o3.1 o3.2 rfl ?_
    have ok13 : sm_ok (sv_up (sv_up (sv_up (sv_up S 34 (S 1059 0) p1) 35 (S 1059 0) p2) 36 (S 1059 0) p3) 37 (S 1059 0) p4) := sm_upI ok10 sm_r37 hp4
    have md14 : sv_mod [1059, 1060, 1100000, 1061, 1062, 1063, 1064, 1065, 34, 35, 36, 37, 38, 92, 93, 94, 95, 96, 97, 98, 99, 100, 101, 1100037, 1100038, 1100039, 1100040, 1100041] S (sv_up (sv_up (sv_up (sv_up S 34 (S 1059 0) p1) 35 (S 1059 0) p2) 36 (S 1059 0) p3) 37 (S 1059 0) p4) := sv_mod.up md11 (by decide)
    refine sv_aload_n hM dX12_wrapIn_108 rfl rfl ?_
    obtain ⟨o15, h⟩ := h
    refine sv_getY hM dX12_wrapIn_109 sm_fl_125 (sm_a0 _) (j := 38) ((sm_k65 _).trans (congrArg (fun z : Int => some (Value.ref z.toNat)) o15)) rfl ?_
    refine sv_aload_n hM dX12_wrapIn_112 rfl rfl ?_
    refine sv_getI hM dX12_wrapIn_113 sm_fl_637 (sm_a0 _) sm_k59 rfl (x := (S 1059 0)) rfl ?_
    refine sv_aload_n hM dX12_wrapIn_116 rfl rfl ?_
    have k16 : sv_R (S 1060 0) := sm_okI ok13 sm_r1060 0
    have h := h k16
    refine sv_getI hM dX12_wrapIn_117 sm_fl_634 (sm_a0 _) sm_k60 rfl (x := (S 1060 0)) rfl ?_
    refine sv_iast sm_X hM dX12_wrapIn_120 (sm_a38 _) (by decide) o3.1 o3.2 rfl ?_
    have ok17 : sm_ok (sv_up (sv_up (sv_up (sv_up (sv_up S 34 (S 1059 0) p1) 35 (S 1059 0) p2) 36 (S 1059 0) p3) 37 (S 1059 0) p4) 38 (S 1059 0) (S 1060 0)) := sm_upI ok13 sm_r38 k16
    have md18 : sv_mod [1059, 1060, 1100000, 1061, 1062, 1063, 1064, 1065, 34, 35, 36, 37, 38, 92, 93, 94, 95, 96, 97, 98, 99, 100, 101, 1100037, 1100038, 1100039, 1100040, 1100041] S (sv_up (sv_up (sv_up (sv_up (sv_up S 34 (S 1059 0) p1) 35 (S 1059 0) p2) 36 (S 1059 0) p3) 37 (S 1059 0) p4) 38 (S 1059 0) (S 1060 0)) := sv_mod.up md14 (by decide)
    refine sv_aload_n hM dX12_wrapIn_121 rfl rfl ?_
    refine sv_aload_n hM dX12_wrapIn_122 rfl rfl ?_
    refine sv_getI hM dX12_wrapIn_123 sm_fl_637 (sm_a0 _) sm_k59 rfl (x := (S 1059 0)) rfl ?_
    refine sv_putI sm_X hM dX12_wrapIn_126 sm_fp_634 (sm_a0 _) sm_q60 (Or.inl rfl) rfl rfl rfl rfl ?_
    have ok19 : sm_ok (sv_up (sv_up (sv_up (sv_up (sv_up (sv_up S 34 (S 1059 0) p1) 35 (S 1059 0) p2) 36 (S 1059 0) p3) 37 (S 1059 0) p4) 38 (S 1059 0) (S 1060 0)) 1060 0 (S 1059 0)) := sm_upI ok17 sm_r1060 k1
    have md20 : sv_mod [1059, 1060, 1100000, 1061, 1062, 1063, 1064, 1065, 34, 35, 36, 37, 38, 92, 93, 94, 95, 96, 97, 98, 99, 100, 101, 1100037, 1100038, 1100039, 1100040, 1100041] S (sv_up (sv_up (sv_up (sv_up (sv_up (sv_up S 34 (S 1059 0) p1) 35 (S 1059 0) p2) 36 (S 1059 0) p3) 37 (S 1059 0) p4) 38 (S 1059 0) (S 1060 0)) 1060 0 (S 1059 0)) := sv_mod.up md18 (by decide)
    refine sv_aload_n hM dX12_wrapIn_129 rfl rfl ?_
    refine sv_dupA hM dX12_wrapIn_130 rfl ?_
    refine sv_getI hM dX12_wrapIn_131 sm_fl_637 (sm_a0 _) sm_k59 rfl (x := (S 1059 0)) rfl ?_
    refine sv_iconst (d := (1 : Int)) hM dX12_wrapIn_134 rfl rfl ?_
    refine sv_iadd hM dX12_wrapIn_135 rfl ?_
    obtain ⟨o21, h⟩ := h
    refine sv_putI sm_X hM dX12_wrapIn_136 sm_fp_637 (sm_a0 _) sm_q59 (Or.inl rfl) rfl rfl rfl rfl ?_
    have ok22 : sm_ok (sv_up (sv_up (sv_up (sv_up (sv_up (sv_up (sv_up S 34 (S 1059 0) p1) 35 (S 1059 0) p2) 36 (S 1059 0) p3) 37 (S 1059 0) p4) 38 (S 1059 0) (S 1060 0)) 1060 0 (S 1059 0)) 1059 0 ((S 1059 0) + (1 : Int))) := sm_upI ok19 sm_r1059 o21
    have md23 : sv_mod [1059, 1060, 1100000, 1061, 1062, 1063, 1064, 1065, 34, 35, 36, 37, 38, 92, 93, 94, 95, 96, 97, 98, 99, 100, 101, 1100037, 1100038, 1100039, 1100040, 1100041] S (sv_up (sv_up (sv_up (sv_up (sv_up (sv_up (sv_up S 34 (S 1059 0) p1) 35 (S 1059 0) p2) 36 (S 1059 0) p3) 37 (S 1059 0) p4) 38 (S 1059 0) (S 1060 0)) 1060 0 (S 1059 0)) 1059 0 ((S 1059 0) + (1 : Int))) := sv_mod.up md20 (by decide)
    obtain ⟨o24, h⟩ := h
    refine sv_ghost sm_X 1100037 (((S 1059 0) + (1 : Int)) - 1) (p1) (by decide) ?_
    have ok25 : sm_ok (sv_up (sv_up (sv_up (sv_up (sv_up (sv_up (sv_up (sv_up S 34 (S 1059 0) p1) 35 (S 1059 0) p2) 36 (S 1059 0) p3) 37 (S 1059 0) p4) 38 (S 1059 0) (S 1060 0)) 1060 0 (S 1059 0)) 1059 0 ((S 1059 0) + (1 : Int))) 1100037 (((S 1059 0) + (1 : Int)) - 1) (p1)) := sm_upI ok22 sm_r1100037 o24
    have md26 : sv_mod [1059, 1060, 1100000, 1061, 1062, 1063, 1064, 1065, 34, 35, 36, 37, 38, 92, 93, 94, 95, 96, 97, 98, 99, 100, 101, 1100037, 1100038, 1100039, 1100040, 1100041] S (sv_up (sv_up (sv_up (sv_up (sv_up (sv_up (sv_up (sv_up S 34 (S 1059 0) p1) 35 (S 1059 0) p2) 36 (S 1059 0) p3) 37 (S 1059 0) p4) 38 (S 1059 0) (S 1060 0)) 1060 0 (S 1059 0)) 1059 0 ((S 1059 0) + (1 : Int))) 1100037 (((S 1059 0) + (1 : Int)) - 1) (p1)) := sv_mod.up md23 (by decide)
    obtain ⟨o27, h⟩ := h
    refine sv_ghost sm_X 1100038 (((S 1059 0) + (1 : Int)) - 1) (p2) (by decide) ?_
    have ok28 : sm_ok (sv_up (sv_up (sv_up (sv_up (sv_up (sv_up (sv_up (sv_up (sv_up S 34 (S 1059 0) p1) 35 (S 1059 0) p2) 36 (S 1059 0) p3) 37 (S 1059 0) p4) 38 (S 1059 0) (S 1060 0)) 1060 0 (S 1059 0)) 1059 0 ((S 1059 0) + (1 : Int))) 1100037 (((S 1059 0) + (1 : Int)) - 1) (p1)) 1100038 (((S 1059 0) + (1 : Int)) - 1) (p2)) := sm_upI ok25 sm_r1100038 o27
    have md29 : sv_mod [1059, 1060, 1100000, 1061, 1062, 1063, 1064, 1065, 34, 35, 36, 37, 38, 92, 93, 94, 95, 96, 97, 98, 99, 100, 101, 1100037, 1100038, 1100039, 1100040, 1100041] S (sv_up (sv_up (sv_up (sv_up (sv_up (sv_up (sv_up (sv_up (sv_up S 34 (S 1059 0) p1) 35 (S 1059 0) p2) 36 (S 1059 0) p3) 37 (S 1059 0) p4) 38 (S 1059 0) (S 1060 0)) 1060 0 (S 1059 0)) 1059 0 ((S 1059 0) + (1 : Int))) 1100037 (((S 1059 0) + (1 : Int)) - 1) (p1)) 1100038 (((S 1059 0) + (1 : Int)) - 1) (p2)) := sv_mod.up md26 (by decide)
    obtain ⟨o30, h⟩ := h
    refine sv_ghost sm_X 1100039 (((S 1059 0) + (1 : Int)) - 1) (p3) (by decide) ?_
    have ok31 : sm_ok (sv_up (sv_up (sv_up (sv_up (sv_up (sv_up (sv_up (sv_up (sv_up (sv_up S 34 (S 1059 0) p1) 35 (S 1059 0) p2) 36 (S 1059 0) p3) 37 (S 1059 0) p4) 38 (S 1059 0) (S 1060 0)) 1060 0 (S 1059 0)) 1059 0 ((S 1059 0) + (1 : Int))) 1100037 (((S 1059 0) + (1 : Int)) - 1) (p1)) 1100038 (((S 1059 0) + (1 : Int)) - 1) (p2)) 1100039 (((S 1059 0) + (1 : Int)) - 1) (p3)) := sm_upI ok28 sm_r1100039 o30
    have md32 : sv_mod [1059, 1060, 1100000, 1061, 1062, 1063, 1064, 1065, 34, 35, 36, 37, 38, 92, 93, 94, 95, 96, 97, 98, 99, 100, 101, 1100037, 1100038, 1100039, 1100040, 1100041] S (sv_up (sv_up (sv_up (sv_up (sv_up (sv_up (sv_up (sv_up (sv_up (sv_up S 34 (S 1059 0) p1) 35 (S 1059 0) p2) 36 (S 1059 0) p3) 37 (S 1059 0) p4) 38 (S 1059 0) (S 1060 0)) 1060 0 (S 1059 0)) 1059 0 ((S 1059 0) + (1 : Int))) 1100037 (((S 1059 0) + (1 : Int)) - 1) (p1)) 1100038 (((S 1059 0) + (1 : Int)) - 1) (p2)) 1100039 (((S 1059 0) + (1 : Int)) - 1) (p3)) := sv_mod.up md29 (by decide)
    obtain ⟨o33, h⟩ := h
    refine sv_ghost sm_X 1100040 (((S 1059 0) + (1 : Int)) - 1) (p4) (by decide) ?_
    have ok34 : sm_ok (sv_up (sv_up (sv_up (sv_up (sv_up (sv_up (sv_up (sv_up (sv_up (sv_up (sv_up S 34 (S 1059 0) p1) 35 (S 1059 0) p2) 36 (S 1059 0) p3) 37 (S 1059 0) p4) 38 (S 1059 0) (S 1060 0)) 1060 0 (S 1059 0)) 1059 0 ((S 1059 0) + (1 : Int))) 1100037 (((S 1059 0) + (1 : Int)) - 1) (p1)) 1100038 (((S 1059 0) + (1 : Int)) - 1) (p2)) 1100039 (((S 1059 0) + (1 : Int)) - 1) (p3)) 1100040 (((S 1059 0) + (1 : Int)) - 1) (p4)) := sm_upI ok31 sm_r1100040 o33
    have md35 : sv_mod [1059, 1060, 1100000, 1061, 1062, 1063, 1064, 1065, 34, 35, 36, 37, 38, 92, 93, 94, 95, 96, 97, 98, 99, 100, 101, 1100037, 1100038, 1100039, 1100040, 1100041] S (sv_up (sv_up (sv_up (sv_up (sv_up (sv_up (sv_up (sv_up (sv_up (sv_up (sv_up S 34 (S 1059 0) p1) 35 (S 1059 0) p2) 36 (S 1059 0) p3) 37 (S 1059 0) p4) 38 (S 1059 0) (S 1060 0)) 1060 0 (S 1059 0)) 1059 0 ((S 1059 0) + (1 : Int))) 1100037 (((S 1059 0) + (1 : Int)) - 1) (p1)) 1100038 (((S 1059 0) + (1 : Int)) - 1) (p2)) 1100039 (((S 1059 0) + (1 : Int)) - 1) (p3)) 1100040 (((S 1059 0) + (1 : Int)) - 1) (p4)) := sv_mod.up md32 (by decide)
    obtain ⟨o36, h⟩ := h
    refine sv_ghost sm_X 1100041 (((S 1059 0) + (1 : Int)) - 1) (((S 1060 0))) (by decide) ?_
    have ok37 : sm_ok (sv_up (sv_up (sv_up (sv_up (sv_up (sv_up (sv_up (sv_up (sv_up (sv_up (sv_up (sv_up S 34 (S 1059 0) p1) 35 (S 1059 0) p2) 36 (S 1059 0) p3) 37 (S 1059 0) p4) 38 (S 1059 0) (S 1060 0)) 1060 0 (S 1059 0)) 1059 0 ((S 1059 0) + (1 : Int))) 1100037 (((S 1059 0) + (1 : Int)) - 1) (p1)) 1100038 (((S 1059 0) + (1 : Int)) - 1) (p2)) 1100039 (((S 1059 0) + (1 : Int)) - 1) (p3)) 1100040 (((S 1059 0) + (1 : Int)) - 1) (p4)) 1100041 (((S 1059 0) + (1 : Int)) - 1) (((S 1060 0)))) := sm_upI ok34 sm_r1100041 o36
    have md38 : sv_mod [1059, 1060, 1100000, 1061, 1062, 1063, 1064, 1065, 34, 35, 36, 37, 38, 92, 93, 94, 95, 96, 97, 98, 99, 100, 101, 1100037, 1100038, 1100039, 1100040, 1100041] S (sv_up (sv_up (sv_up (sv_up (sv_up (sv_up (sv_up (sv_up (sv_up (sv_up (sv_up (sv_up S 34 (S 1059 0) p1) 35 (S 1059 0) p2) 36 (S 1059 0) p3) 37 (S 1059 0) p4) 38 (S 1059 0) (S 1060 0)) 1060 0 (S 1059 0)) 1059 0 ((S 1059 0) + (1 : Int))) 1100037 (((S 1059 0) + (1 : Int)) - 1) (p1)) 1100038 (((S 1059 0) + (1 : Int)) - 1) (p2)) 1100039 (((S 1059 0) + (1 : Int)) - 1) (p3)) 1100040 (((S 1059 0) + (1 : Int)) - 1) (p4)) 1100041 (((S 1059 0) + (1 : Int)) - 1) (((S 1060 0)))) := sv_mod.up md35 (by decide)
    have k39 : (((S 1100000 0) = 0 ∧ (S 1061 0) = 34 ∧ (S 1062 0) = 35 ∧ (S 1063 0) = 36 ∧ (S 1064 0) = 37 ∧ (S 1065 0) = 38) → (0 ≤ ((S 1059 0) + (1 : Int)) ∧ ((S 1059 0) + (1 : Int)) ≤ 2000) → (∀ i : Int, 0 ≤ i → i < ((S 1059 0) + (1 : Int)) → (if i = (S 1059 0) then p1 else (S 34 i)) = (if i = (((S 1059 0) + (1 : Int)) - 1) then (p1) else (S 1100037 i)) ∧ (if i = (S 1059 0) then p2 else (S 35 i)) = (if i = (((S 1059 0) + (1 : Int)) - 1) then (p2) else (S 1100038 i)) ∧ (if i = (S 1059 0) then p3 else (S 36 i)) = (if i = (((S 1059 0) + (1 : Int)) - 1) then (p3) else (S 1100039 i)) ∧ (if i = (S 1059 0) then p4 else (S 37 i)) = (if i = (((S 1059 0) + (1 : Int)) - 1) then (p4) else (S 1100040 i)) ∧ (if i = (S 1059 0) then (S 1060 0) else (S 38 i)) = (if i = (((S 1059 0) + (1 : Int)) - 1) then (((S 1060 0))) else (S 1100041 i))) → sm_DY (S 1061 0) (S 1062 0) (S 1063 0) (S 1064 0) (S 1065 0) (S 1100000 0) ((S 1059 0) + (1 : Int)) (fun i' : Int => if i' = (S 1059 0) then p1 else (S 34) i') (fun i' : Int => if i' = (S 1059 0) then p2 else (S 35) i') (fun i' : Int => if i' = (S 1059 0) then p3 else (S 36) i') (fun i' : Int => if i' = (S 1059 0) then p4 else (S 37) i') (fun i' : Int => if i' = (S 1059 0) then (S 1060 0) else (S 38) i') (S 92) (S 93) (S 94) (S 95) (S 96) (S 97) (S 98) (S 99) (S 100) (S 101) (fun i' : Int => if i' = (((S 1059 0) + (1 : Int)) - 1) then (p1) else (S 1100037) i') (fun i' : Int => if i' = (((S 1059 0) + (1 : Int)) - 1) then (p2) else (S 1100038) i') (fun i' : Int => if i' = (((S 1059 0) + (1 : Int)) - 1) then (p3) else (S 1100039) i') (fun i' : Int => if i' = (((S 1059 0) + (1 : Int)) - 1) then (p4) else (S 1100040) i') (fun i' : Int => if i' = (((S 1059 0) + (1 : Int)) - 1) then (((S 1060 0))) else (S 1100041) i')) := fun a b c => sm_DY_0 a b c
    have h := h k39
    have k40 : (((S 1100000 0) = 5 ∧ (S 1061 0) = 92 ∧ (S 1062 0) = 93 ∧ (S 1063 0) = 94 ∧ (S 1064 0) = 95 ∧ (S 1065 0) = 96) → (0 ≤ ((S 1059 0) + (1 : Int)) ∧ ((S 1059 0) + (1 : Int)) ≤ 4000) → (∀ i : Int, 0 ≤ i → i < ((S 1059 0) + (1 : Int)) → (S 92 i) = (if i = (((S 1059 0) + (1 : Int)) - 1) then (p1) else (S 1100037 i)) ∧ (S 93 i) = (if i = (((S 1059 0) + (1 : Int)) - 1) then (p2) else (S 1100038 i)) ∧ (S 94 i) = (if i = (((S 1059 0) + (1 : Int)) - 1) then (p3) else (S 1100039 i)) ∧ (S 95 i) = (if i = (((S 1059 0) + (1 : Int)) - 1) then (p4) else (S 1100040 i)) ∧ (S 96 i) = (if i = (((S 1059 0) + (1 : Int)) - 1) then (((S 1060 0))) else (S 1100041 i))) → sm_DY (S 1061 0) (S 1062 0) (S 1063 0) (S 1064 0) (S 1065 0) (S 1100000 0) ((S 1059 0) + (1 : Int)) (fun i' : Int => if i' = (S 1059 0) then p1 else (S 34) i') (fun i' : Int => if i' = (S 1059 0) then p2 else (S 35) i') (fun i' : Int => if i' = (S 1059 0) then p3 else (S 36) i') (fun i' : Int => if i' = (S 1059 0) then p4 else (S 37) i') (fun i' : Int => if i' = (S 1059 0) then (S 1060 0) else (S 38) i') (S 92) (S 93) (S 94) (S 95) (S 96) (S 97) (S 98) (S 99) (S 100) (S 101) (fun i' : Int => if i' = (((S 1059 0) + (1 : Int)) - 1) then (p1) else (S 1100037) i') (fun i' : Int => if i' = (((S 1059 0) + (1 : Int)) - 1) then (p2) else (S 1100038) i') (fun i' : Int => if i' = (((S 1059 0) + (1 : Int)) - 1) then (p3) else (S 1100039) i') (fun i' : Int => if i' = (((S 1059 0) + (1 : Int)) - 1) then (p4) else (S 1100040) i') (fun i' : Int => if i' = (((S 1059 0) + (1 : Int)) - 1) then (((S 1060 0))) else (S 1100041) i')) := fun a b c => sm_DY_5 a b c
    have h := h k40
    exact sv_vret hM dX12_wrapIn_139 rfl ⟨rfl, ok37, md38, h⟩
  · have h := h.2 (hc)
    refine sv_aload_n hM dX12_wrapIn_12 rfl rfl ?_
    refine sv_aload_n hM dX12_wrapIn_13 rfl rfl ?_
    refine sv_getY hM dX12_wrapIn_14 sm_fl_113 (sm_a0 _) (j := 34) ((sm_k61 _).trans (congrArg (fun z : Int => some (Value.ref z.toNat)) o2)) rfl ?_
    obtain ⟨o41, h⟩ := h
    have ok42 : sm_ok (sv_up S 1100000 0 (1 : Int)) := sm_upI hok sm_r1100000 (⟨by decide, by decide⟩ : sv_R (1 : Int))
    have ok43 : sm_ok (sv_row (sv_up S 1100000 0 (1 : Int)) 92 (fun i' : Int => if i' < (2000 : Int) then (S 34 i') else (0 : Int))) := sm_rowI ok42 sm_r92 (fun i => by split; exact sm_okI hok sm_r34 i; exact ⟨by decide, by decide⟩)
    have md44 : sv_mod [1059, 1060, 1100000, 1061, 1062, 1063, 1064, 1065, 34, 35, 36, 37, 38, 92, 93, 94, 95, 96, 97, 98, 99, 100, 101, 1100037, 1100038, 1100039, 1100040, 1100041] S (sv_row (sv_up S 1100000 0 (1 : Int)) 92 (fun i' : Int => if i' < (2000 : Int) then (S 34 i') else (0 : Int))) := sv_mod.row (sv_mod.up sv_mod.rf (by decide)) (by decide)
    have hL45 := sm_longer (S := S) (m := 0) (p := 34) (n := 2000) (f := (fun i' : Int => if i' < (2000 : Int) then (S 34 i') else (0 : Int))) o41 (by decide) (by decide) (fun j => rfl)
    refine sv_longer hM dX12_wrapIn_17 sm_iv_640 sm_h1003 (sm_a34 _) (by decide) (Nat.le_of_ble_eq_true rfl) (Nat.le_of_ble_eq_true rfl) hL45.1 hL45.2.1 hL45.2.2 rfl ?_
    show sv_T sm_XS sm_cs sm_L sm_sh 4 (q_wrapIn0 p1 p2 p3 p4 S) 93 20 [(0, .ref 0), (1, sv_I p1), (2, sv_I p2), (3, sv_I p3), (4, sv_I p4)] [.ref 92, .ref 0] (sv_row (sv_up S 1100000 0 (1 : Int)) 92 (fun i' : Int => if i' < (2000 : Int) then (S 34 i') else (0 : Int)))
    refine sv_putY sm_X hM dX12_wrapIn_20 sm_fp_113 (sm_a0 _) sm_q61 rfl (x := (92 : Int)) rfl rfl ?_
    have ok46 : sm_ok (sv_up (sv_row (sv_up S 1100000 0 (1 : Int)) 92 (fun i' : Int => if i' < (2000 : Int) then (S 34 i') else (0 : Int))) 1061 0 (92 : Int)) := sm_upI ok43 sm_r1061 (⟨by decide, by decide⟩ : sv_R (92 : Int))
    have md47 : sv_mod [1059, 1060, 1100000, 1061, 1062, 1063, 1064, 1065, 34, 35, 36, 37, 38, 92, 93, 94, 95, 96, 97, 98, 99, 100, 101, 1100037, 1100038, 1100039, 1100040, 1100041] S (sv_up (sv_row (sv_up S 1100000 0 (1 : Int)) 92 (fun i' : Int => if i' < (2000 : Int) then (S 34 i') else (0 : Int))) 1061 0 (92 : Int)) := sv_mod.up md44 (by decide)
    refine sv_aload_n hM dX12_wrapIn_23 rfl rfl ?_
    refine sv_aload_n hM dX12_wrapIn_24 rfl rfl ?_
    obtain ⟨o48, h⟩ := h
    refine sv_getY hM dX12_wrapIn_25 sm_fl_116 (sm_a0 _) (j := 35) ((sm_k62 _).trans (congrArg (fun z : Int => some (Value.ref z.toNat)) o48)) rfl ?_
    have ok49 : sm_ok (sv_up (sv_up (sv_row (sv_up S 1100000 0 (1 : Int)) 92 (fun i' : Int => if i' < (2000 : Int) then (S 34 i') else (0 : Int))) 1061 0 (92 : Int)) 1100000 0 (2 : Int)) := sm_upI ok46 sm_r1100000 (⟨by decide, by decide⟩ : sv_R (2 : Int))
    have ok50 : sm_ok (sv_row (sv_up (sv_up (sv_row (sv_up S 1100000 0 (1 : Int)) 92 (fun i' : Int => if i' < (2000 : Int) then (S 34 i') else (0 : Int))) 1061 0 (92 : Int)) 1100000 0 (2 : Int)) 93 (fun i' : Int => if i' < (2000 : Int) then (S 35 i') else (0 : Int))) := sm_rowI ok49 sm_r93 (fun i => by split; exact sm_okI ok46 sm_r35 i; exact ⟨by decide, by decide⟩)
    have md51 : sv_mod [1059, 1060, 1100000, 1061, 1062, 1063, 1064, 1065, 34, 35, 36, 37, 38, 92, 93, 94, 95, 96, 97, 98, 99, 100, 101, 1100037, 1100038, 1100039, 1100040, 1100041] S (sv_row (sv_up (sv_up (sv_row (sv_up S 1100000 0 (1 : Int)) 92 (fun i' : Int => if i' < (2000 : Int) then (S 34 i') else (0 : Int))) 1061 0 (92 : Int)) 1100000 0 (2 : Int)) 93 (fun i' : Int => if i' < (2000 : Int) then (S 35 i') else (0 : Int))) := sv_mod.row (sv_mod.up md47 (by decide)) (by decide)
    have hL52 := sm_longer (S := (sv_up (sv_row (sv_up S 1100000 0 (1 : Int)) 92 (fun i' : Int => if i' < (2000 : Int) then (S 34 i') else (0 : Int))) 1061 0 (92 : Int))) (m := 1) (p := 35) (n := 2000) (f := (fun i' : Int => if i' < (2000 : Int) then (S 35 i') else (0 : Int))) rfl (by decide) (by decide) (fun j => rfl)
    refine sv_longer hM dX12_wrapIn_28 sm_iv_640 sm_h1003 (sm_a35 _) (by decide) (Nat.le_of_ble_eq_true rfl) (Nat.le_of_ble_eq_true rfl) hL52.1 hL52.2.1 hL52.2.2 rfl ?_
    show sv_T sm_XS sm_cs sm_L sm_sh 4 (q_wrapIn0 p1 p2 p3 p4 S) 93 31 [(0, .ref 0), (1, sv_I p1), (2, sv_I p2), (3, sv_I p3), (4, sv_I p4)] [.ref 93, .ref 0] (sv_row (sv_up (sv_up (sv_row (sv_up S 1100000 0 (1 : Int)) 92 (fun i' : Int => if i' < (2000 : Int) then (S 34 i') else (0 : Int))) 1061 0 (92 : Int)) 1100000 0 (2 : Int)) 93 (fun i' : Int => if i' < (2000 : Int) then (S 35 i') else (0 : Int)))
    refine sv_putY sm_X hM dX12_wrapIn_31 sm_fp_116 (sm_a0 _) sm_q62 rfl (x := (93 : Int)) rfl rfl ?_
    have ok53 : sm_ok (sv_up (sv_row (sv_up (sv_up (sv_row (sv_up S 1100000 0 (1 : Int)) 92 (fun i' : Int => if i' < (2000 : Int) then (S 34 i') else (0 : Int))) 1061 0 (92 : Int)) 1100000 0 (2 : Int)) 93 (fun i' : Int => if i' < (2000 : Int) then (S 35 i') else (0 : Int))) 1062 0 (93 : Int)) := sm_upI ok50 sm_r1062 (⟨by decide, by decide⟩ : sv_R (93 : Int))
    have md54 : sv_mod [1059, 1060, 1100000, 1061, 1062, 1063, 1064, 1065, 34, 35, 36, 37, 38, 92, 93, 94, 95, 96, 97, 98, 99, 100, 101, 1100037, 1100038, 1100039, 1100040, 1100041] S (sv_up (sv_row (sv_up (sv_up (sv_row (sv_up S 1100000 0 (1 : Int)) 92 (fun i' : Int => if i' < (2000 : Int) then (S 34 i') else (0 : Int))) 1061 0 (92 : Int)) 1100000 0 (2 : Int)) 93 (fun i' : Int => if i' < (2000 : Int) then (S 35 i') else (0 : Int))) 1062 0 (93 : Int)) := sv_mod.up md51 (by decide)
    refine sv_aload_n hM dX12_wrapIn_34 rfl rfl ?_
    refine sv_aload_n hM dX12_wrapIn_35 rfl rfl ?_
    obtain ⟨o55, h⟩ := h
    refine sv_getY hM dX12_wrapIn_36 sm_fl_119 (sm_a0 _) (j := 36) ((sm_k63 _).trans (congrArg (fun z : Int => some (Value.ref z.toNat)) o55)) rfl ?_
    have ok56 : sm_ok (sv_up (sv_up (sv_row (sv_up (sv_up (sv_row (sv_up S 1100000 0 (1 : Int)) 92 (fun i' : Int => if i' < (2000 : Int) then (S 34 i') else (0 : Int))) 1061 0 (92 : Int)) 1100000 0 (2 : Int)) 93 (fun i' : Int => if i' < (2000 : Int) then (S 35 i') else (0 : Int))) 1062 0 (93 : Int)) 1100000 0 (3 : Int)) := sm_upI ok53 sm_r1100000 (⟨by decide, by decide⟩ : sv_R (3 : Int))
    have ok57 : sm_ok (sv_row (sv_up (sv_up (sv_row (sv_up (sv_up (sv_row (sv_up S 1100000 0 (1 : Int)) 92 (fun i' : Int => if i' < (2000 : Int) then (S 34 i') else (0 : Int))) 1061 0 (92 : Int)) 1100000 0 (2 : Int)) 93 (fun i' : Int => if i' < (2000 : Int) then (S 35 i') else (0 : Int))) 1062 0 (93 : Int)) 1100000 0 (3 : Int)) 94 (fun i' : Int => if i' < (2000 : Int) then (S 36 i') else (0 : Int))) := sm_rowI ok56 sm_r94 (fun i => by split; exact sm_okI ok53 sm_r36 i; exact ⟨by decide, by decide⟩)
    have md58 : sv_mod [1059, 1060, 1100000, 1061, 1062, 1063, 1064, 1065, 34, 35, 36, 37, 38, 92, 93, 94, 95, 96, 97, 98, 99, 100, 101, 1100037, 1100038, 1100039, 1100040, 1100041] S (sv_row (sv_up (sv_up (sv_row (sv_up (sv_up (sv_row (sv_up S 1100000 0 (1 : Int)) 92 (fun i' : Int => if i' < (2000 : Int) then (S 34 i') else (0 : Int))) 1061 0 (92 : Int)) 1100000 0 (2 : Int)) 93 (fun i' : Int => if i' < (2000 : Int) then (S 35 i') else (0 : Int))) 1062 0 (93 : Int)) 1100000 0 (3 : Int)) 94 (fun i' : Int => if i' < (2000 : Int) then (S 36 i') else (0 : Int))) := sv_mod.row (sv_mod.up md54 (by decide)) (by decide)
    have hL59 := sm_longer (S := (sv_up (sv_row (sv_up (sv_up (sv_row (sv_up S 1100000 0 (1 : Int)) 92 (fun i' : Int => if i' < (2000 : Int) then (S 34 i') else (0 : Int))) 1061 0 (92 : Int)) 1100000 0 (2 : Int)) 93 (fun i' : Int => if i' < (2000 : Int) then (S 35 i') else (0 : Int))) 1062 0 (93 : Int))) (m := 2) (p := 36) (n := 2000) (f := (fun i' : Int => if i' < (2000 : Int) then (S 36 i') else (0 : Int))) rfl (by decide) (by decide) (fun j => rfl)
    refine sv_longer hM dX12_wrapIn_39 sm_iv_640 sm_h1003 (sm_a36 _) (by decide) (Nat.le_of_ble_eq_true rfl) (Nat.le_of_ble_eq_true rfl) hL59.1 hL59.2.1 hL59.2.2 rfl ?_
    show sv_T sm_XS sm_cs sm_L sm_sh 4 (q_wrapIn0 p1 p2 p3 p4 S) 93 42 [(0, .ref 0), (1, sv_I p1), (2, sv_I p2), (3, sv_I p3), (4, sv_I p4)] [.ref 94, .ref 0] (sv_row (sv_up (sv_up (sv_row (sv_up (sv_up (sv_row (sv_up S 1100000 0 (1 : Int)) 92 (fun i' : Int => if i' < (2000 : Int) then (S 34 i') else (0 : Int))) 1061 0 (92 : Int)) 1100000 0 (2 : Int)) 93 (fun i' : Int => if i' < (2000 : Int) then (S 35 i') else (0 : Int))) 1062 0 (93 : Int)) 1100000 0 (3 : Int)) 94 (fun i' : Int => if i' < (2000 : Int) then (S 36 i') else (0 : Int)))
    refine sv_putY sm_X hM dX12_wrapIn_42 sm_fp_119 (sm_a0 _) sm_q63 rfl (x := (94 : Int)) rfl rfl ?_
    have ok60 : sm_ok (sv_up (sv_row (sv_up (sv_up (sv_row (sv_up (sv_up (sv_row (sv_up S 1100000 0 (1 : Int)) 92 (fun i' : Int => if i' < (2000 : Int) then (S 34 i') else (0 : Int))) 1061 0 (92 : Int)) 1100000 0 (2 : Int)) 93 (fun i' : Int => if i' < (2000 : Int) then (S 35 i') else (0 : Int))) 1062 0 (93 : Int)) 1100000 0 (3 : Int)) 94 (fun i' : Int => if i' < (2000 : Int) then (S 36 i') else (0 : Int))) 1063 0 (94 : Int)) := sm_upI ok57 sm_r1063 (⟨by decide, by decide⟩ : sv_R (94 : Int))
    have md61 : sv_mod [1059, 1060, 1100000, 1061, 1062, 1063, 1064, 1065, 34, 35, 36, 37, 38, 92, 93, 94, 95, 96, 97, 98, 99, 100, 101, 1100037, 1100038, 1100039, 1100040, 1100041] S (sv_up (sv_row (sv_up (sv_up (sv_row (sv_up (sv_up (sv_row (sv_up S 1100000 0 (1 : Int)) 92 (fun i' : Int => if i' < (2000 : Int) then (S 34 i') else (0 : Int))) 1061 0 (92 : Int)) 1100000 0 (2 : Int)) 93 (fun i' : Int => if i' < (2000 : Int) then (S 35 i') else (0 : Int))) 1062 0 (93 : Int)) 1100000 0 (3 : Int)) 94 (fun i' : Int => if i' < (2000 : Int) then (S 36 i') else (0 : Int))) 1063 0 (94 : Int)) := sv_mod.up md58 (by decide)
    refine sv_aload_n hM dX12_wrapIn_45 rfl rfl ?_
    refine sv_aload_n hM dX12_wrapIn_46 rfl rfl ?_
    obtain ⟨o62, h⟩ := h
    refine sv_getY hM dX12_wrapIn_47 sm_fl_122 (sm_a0 _) (j := 37) ((sm_k64 _).trans (congrArg (fun z : Int => some (Value.ref z.toNat)) o62)) rfl ?_
    have ok63 : sm_ok (sv_up (sv_up (sv_row (sv_up (sv_up (sv_row (sv_up (sv_up (sv_row (sv_up S 1100000 0 (1 : Int)) 92 (fun i' : Int => if i' < (2000 : Int) then (S 34 i') else (0 : Int))) 1061 0 (92 : Int)) 1100000 0 (2 : Int)) 93 (fun i' : Int => if i' < (2000 : Int) then (S 35 i') else (0 : Int))) 1062 0 (93 : Int)) 1100000 0 (3 : Int)) 94 (fun i' : Int => if i' < (2000 : Int) then (S 36 i') else (0 : Int))) 1063 0 (94 : Int)) 1100000 0 (4 : Int)) := sm_upI ok60 sm_r1100000 (⟨by decide, by decide⟩ : sv_R (4 : Int))
    have ok64 : sm_ok (sv_row (sv_up (sv_up (sv_row (sv_up (sv_up (sv_row (sv_up (sv_up (sv_row (sv_up S 1100000 0 (1 : Int)) 92 (fun i' : Int => if i' < (2000 : Int) then (S 34 i') else (0 : Int))) 1061 0 (92 : Int)) 1100000 0 (2 : Int)) 93 (fun i' : Int => if i' < (2000 : Int) then (S 35 i') else (0 : Int))) 1062 0 (93 : Int)) 1100000 0 (3 : Int)) 94 (fun i' : Int => if i' < (2000 : Int) then (S 36 i') else (0 : Int))) 1063 0 (94 : Int)) 1100000 0 (4 : Int)) 95 (fun i' : Int => if i' < (2000 : Int) then (S 37 i') else (0 : Int))) := sm_rowI ok63 sm_r95 (fun i => by split; exact sm_okI ok60 sm_r37 i; exact ⟨by decide, by decide⟩)
    have md65 : sv_mod [1059, 1060, 1100000, 1061, 1062, 1063, 1064, 1065, 34, 35, 36, 37, 38, 92, 93, 94, 95, 96, 97, 98, 99, 100, 101, 1100037, 1100038, 1100039, 1100040, 1100041] S (sv_row (sv_up (sv_up (sv_row (sv_up (sv_up (sv_row (sv_up (sv_up (sv_row (sv_up S 1100000 0 (1 : Int)) 92 (fun i' : Int => if i' < (2000 : Int) then (S 34 i') else (0 : Int))) 1061 0 (92 : Int)) 1100000 0 (2 : Int)) 93 (fun i' : Int => if i' < (2000 : Int) then (S 35 i') else (0 : Int))) 1062 0 (93 : Int)) 1100000 0 (3 : Int)) 94 (fun i' : Int => if i' < (2000 : Int) then (S 36 i') else (0 : Int))) 1063 0 (94 : Int)) 1100000 0 (4 : Int)) 95 (fun i' : Int => if i' < (2000 : Int) then (S 37 i') else (0 : Int))) := sv_mod.row (sv_mod.up md61 (by decide)) (by decide)
    have hL66 := sm_longer (S := (sv_up (sv_row (sv_up (sv_up (sv_row (sv_up (sv_up (sv_row (sv_up S 1100000 0 (1 : Int)) 92 (fun i' : Int => if i' < (2000 : Int) then (S 34 i') else (0 : Int))) 1061 0 (92 : Int)) 1100000 0 (2 : Int)) 93 (fun i' : Int => if i' < (2000 : Int) then (S 35 i') else (0 : Int))) 1062 0 (93 : Int)) 1100000 0 (3 : Int)) 94 (fun i' : Int => if i' < (2000 : Int) then (S 36 i') else (0 : Int))) 1063 0 (94 : Int))) (m := 3) (p := 37) (n := 2000) (f := (fun i' : Int => if i' < (2000 : Int) then (S 37 i') else (0 : Int))) rfl (by decide) (by decide) (fun j => rfl)
    refine sv_longer hM dX12_wrapIn_50 sm_iv_640 sm_h1003 (sm_a37 _) (by decide) (Nat.le_of_ble_eq_true rfl) (Nat.le_of_ble_eq_true rfl) hL66.1 hL66.2.1 hL66.2.2 rfl ?_
    show sv_T sm_XS sm_cs sm_L sm_sh 4 (q_wrapIn0 p1 p2 p3 p4 S) 93 53 [(0, .ref 0), (1, sv_I p1), (2, sv_I p2), (3, sv_I p3), (4, sv_I p4)] [.ref 95, .ref 0] (sv_row (sv_up (sv_up (sv_row (sv_up (sv_up (sv_row (sv_up (sv_up (sv_row (sv_up S 1100000 0 (1 : Int)) 92 (fun i' : Int => if i' < (2000 : Int) then (S 34 i') else (0 : Int))) 1061 0 (92 : Int)) 1100000 0 (2 : Int)) 93 (fun i' : Int => if i' < (2000 : Int) then (S 35 i') else (0 : Int))) 1062 0 (93 : Int)) 1100000 0 (3 : Int)) 94 (fun i' : Int => if i' < (2000 : Int) then (S 36 i') else (0 : Int))) 1063 0 (94 : Int)) 1100000 0 (4 : Int)) 95 (fun i' : Int => if i' < (2000 : Int) then (S 37 i') else (0 : Int)))
    refine sv_putY sm_X hM dX12_wrapIn_53 sm_fp_122 (sm_a0 _) sm_q64 rfl (x := (95 : Int)) rfl rfl ?_
    have ok67 : sm_ok (sv_up (sv_row (sv_up (sv_up (sv_row (sv_up (sv_up (sv_row (sv_up (sv_up (sv_row (sv_up S 1100000 0 (1 : Int)) 92 (fun i' : Int => if i' < (2000 : Int) then (S 34 i') else (0 : Int))) 1061 0 (92 : Int)) 1100000 0 (2 : Int)) 93 (fun i' : Int => if i' < (2000 : Int) then (S 35 i') else (0 : Int))) 1062 0 (93 : Int)) 1100000 0 (3 : Int)) 94 (fun i' : Int => if i' < (2000 : Int) then (S 36 i') else (0 : Int))) 1063 0 (94 : Int)) 1100000 0 (4 : Int)) 95 (fun i' : Int => if i' < (2000 : Int) then (S 37 i') else (0 : Int))) 1064 0 (95 : Int)) := sm_upI ok64 sm_r1064 (⟨by decide, by decide⟩ : sv_R (95 : Int))
    have md68 : sv_mod [1059, 1060, 1100000, 1061, 1062, 1063, 1064, 1065, 34, 35, 36, 37, 38, 92, 93, 94, 95, 96, 97, 98, 99, 100, 101, 1100037, 1100038, 1100039, 1100040, 1100041] S (sv_up (sv_row (sv_up (sv_up (sv_row (sv_up (sv_up (sv_row (sv_up (sv_up (sv_row (sv_up S 1100000 0 (1 : Int)) 92 (fun i' : Int => if i' < (2000 : Int) then (S 34 i') else (0 : Int))) 1061 0 (92 : Int)) 1100000 0 (2 : Int)) 93 (fun i' : Int => if i' < (2000 : Int) then (S 35 i') else (0 : Int))) 1062 0 (93 : Int)) 1100000 0 (3 : Int)) 94 (fun i' : Int => if i' < (2000 : Int) then (S 36 i') else (0 : Int))) 1063 0 (94 : Int)) 1100000 0 (4 : Int)) 95 (fun i' : Int => if i' < (2000 : Int) then (S 37 i') else (0 : Int))) 1064 0 (95 : Int)) := sv_mod.up md65 (by decide)
    refine sv_aload_n hM dX12_wrapIn_56 rfl rfl ?_
    refine sv_aload_n hM dX12_wrapIn_57 rfl rfl ?_
    obtain ⟨o69, h⟩ := h
    refine sv_getY hM dX12_wrapIn_58 sm_fl_125 (sm_a0 _) (j := 38) ((sm_k65 _).trans (congrArg (fun z : Int => some (Value.ref z.toNat)) o69)) rfl ?_
    have ok70 : sm_ok (sv_up (sv_up (sv_row (sv_up (sv_up (sv_row (sv_up (sv_up (sv_row (sv_up (sv_up (sv_row (sv_up S 1100000 0 (1 : Int)) 92 (fun i' : Int => if i' < (2000 : Int) then (S 34 i') else (0 : Int))) 1061 0 (92 : Int)) 1100000 0 (2 : Int)) 93 (fun i' : Int => if i' < (2000 : Int) then (S 35 i') else (0 : Int))) 1062 0 (93 : Int)) 1100000 0 (3 : Int)) 94 (fun i' : Int => if i' < (2000 : Int) then (S 36 i') else (0 : Int))) 1063 0 (94 : Int)) 1100000 0 (4 : Int)) 95 (fun i' : Int => if i' < (2000 : Int) then (S 37 i') else (0 : Int))) 1064 0 (95 : Int)) 1100000 0 (5 : Int)) := sm_upI ok67 sm_r1100000 (⟨by decide, by decide⟩ : sv_R (5 : Int))
    have ok71 : sm_ok (sv_row (sv_up (sv_up (sv_row (sv_up (sv_up (sv_row (sv_up (sv_up (sv_row (sv_up (sv_up (sv_row (sv_up S 1100000 0 (1 : Int)) 92 (fun i' : Int => if i' < (2000 : Int) then (S 34 i') else (0 : Int))) 1061 0 (92 : Int)) 1100000 0 (2 : Int)) 93 (fun i' : Int => if i' < (2000 : Int) then (S 35 i') else (0 : Int))) 1062 0 (93 : Int)) 1100000 0 (3 : Int)) 94 (fun i' : Int => if i' < (2000 : Int) then (S 36 i') else (0 : Int))) 1063 0 (94 : Int)) 1100000 0 (4 : Int)) 95 (fun i' : Int => if i' < (2000 : Int) then (S 37 i') else (0 : Int))) 1064 0 (95 : Int)) 1100000 0 (5 : Int)) 96 (fun i' : Int => if i' < (2000 : Int) then (S 38 i') else (0 : Int))) := sm_rowI ok70 sm_r96 (fun i => by split; exact sm_okI ok67 sm_r38 i; exact ⟨by decide, by decide⟩)
    have md72 : sv_mod [1059, 1060, 1100000, 1061, 1062, 1063, 1064, 1065, 34, 35, 36, 37, 38, 92, 93, 94, 95, 96, 97, 98, 99, 100, 101, 1100037, 1100038, 1100039, 1100040, 1100041] S (sv_row (sv_up (sv_up (sv_row (sv_up (sv_up (sv_row (sv_up (sv_up (sv_row (sv_up (sv_up (sv_row (sv_up S 1100000 0 (1 : Int)) 92 (fun i' : Int => if i' < (2000 : Int) then (S 34 i') else (0 : Int))) 1061 0 (92 : Int)) 1100000 0 (2 : Int)) 93 (fun i' : Int => if i' < (2000 : Int) then (S 35 i') else (0 : Int))) 1062 0 (93 : Int)) 1100000 0 (3 : Int)) 94 (fun i' : Int => if i' < (2000 : Int) then (S 36 i') else (0 : Int))) 1063 0 (94 : Int)) 1100000 0 (4 : Int)) 95 (fun i' : Int => if i' < (2000 : Int) then (S 37 i') else (0 : Int))) 1064 0 (95 : Int)) 1100000 0 (5 : Int)) 96 (fun i' : Int => if i' < (2000 : Int) then (S 38 i') else (0 : Int))) := sv_mod.row (sv_mod.up md68 (by decide)) (by decide)
    have hL73 := sm_longer (S := (sv_up (sv_row (sv_up (sv_up (sv_row (sv_up (sv_up (sv_row (sv_up (sv_up (sv_row (sv_up S 1100000 0 (1 : Int)) 92 (fun i' : Int => if i' < (2000 : Int) then (S 34 i') else (0 : Int))) 1061 0 (92 : Int)) 1100000 0 (2 : Int)) 93 (fun i' : Int => if i' < (2000 : Int) then (S 35 i') else (0 : Int))) 1062 0 (93 : Int)) 1100000 0 (3 : Int)) 94 (fun i' : Int => if i' < (2000 : Int) then (S 36 i') else (0 : Int))) 1063 0 (94 : Int)) 1100000 0 (4 : Int)) 95 (fun i' : Int => if i' < (2000 : Int) then (S 37 i') else (0 : Int))) 1064 0 (95 : Int))) (m := 4) (p := 38) (n := 2000) (f := (fun i' : Int => if i' < (2000 : Int) then (S 38 i') else (0 : Int))) rfl (by decide) (by decide) (fun j => rfl)
    refine sv_longer hM dX12_wrapIn_61 sm_iv_640 sm_h1003 (sm_a38 _) (by decide) (Nat.le_of_ble_eq_true rfl) (Nat.le_of_ble_eq_true rfl) hL73.1 hL73.2.1 hL73.2.2 rfl ?_
    show sv_T sm_XS sm_cs sm_L sm_sh 4 (q_wrapIn0 p1 p2 p3 p4 S) 93 64 [(0, .ref 0), (1, sv_I p1), (2, sv_I p2), (3, sv_I p3), (4, sv_I p4)] [.ref 96, .ref 0] (sv_row (sv_up (sv_up (sv_row (sv_up (sv_up (sv_row (sv_up (sv_up (sv_row (sv_up (sv_up (sv_row (sv_up S 1100000 0 (1 : Int)) 92 (fun i' : Int => if i' < (2000 : Int) then (S 34 i') else (0 : Int))) 1061 0 (92 : Int)) 1100000 0 (2 : Int)) 93 (fun i' : Int => if i' < (2000 : Int) then (S 35 i') else (0 : Int))) 1062 0 (93 : Int)) 1100000 0 (3 : Int)) 94 (fun i' : Int => if i' < (2000 : Int) then (S 36 i') else (0 : Int))) 1063 0 (94 : Int)) 1100000 0 (4 : Int)) 95 (fun i' : Int => if i' < (2000 : Int) then (S 37 i') else (0 : Int))) 1064 0 (95 : Int)) 1100000 0 (5 : Int)) 96 (fun i' : Int => if i' < (2000 : Int) then (S 38 i') else (0 : Int)))
    refine sv_putY sm_X hM dX12_wrapIn_64 sm_fp_125 (sm_a0 _) sm_q65 rfl (x := (96 : Int)) rfl rfl ?_
    have ok74 : sm_ok (sv_up (sv_row (sv_up (sv_up (sv_row (sv_up (sv_up (sv_row (sv_up (sv_up (sv_row (sv_up (sv_up (sv_row (sv_up S 1100000 0 (1 : Int)) 92 (fun i' : Int => if i' < (2000 : Int) then (S 34 i') else (0 : Int))) 1061 0 (92 : Int)) 1100000 0 (2 : Int)) 93 (fun i' : Int => if i' < (2000 : Int) then (S 35 i') else (0 : Int))) 1062 0 (93 : Int)) 1100000 0 (3 : Int)) 94 (fun i' : Int => if i' < (2000 : Int) then (S 36 i') else (0 : Int))) 1063 0 (94 : Int)) 1100000 0 (4 : Int)) 95 (fun i' : Int => if i' < (2000 : Int) then (S 37 i') else (0 : Int))) 1064 0 (95 : Int)) 1100000 0 (5 : Int)) 96 (fun i' : Int => if i' < (2000 : Int) then (S 38 i') else (0 : Int))) 1065 0 (96 : Int)) := sm_upI ok71 sm_r1065 (⟨by decide, by decide⟩ : sv_R (96 : Int))
    have md75 : sv_mod [1059, 1060, 1100000, 1061, 1062, 1063, 1064, 1065, 34, 35, 36, 37, 38, 92, 93, 94, 95, 96, 97, 98, 99, 100, 101, 1100037, 1100038, 1100039, 1100040, 1100041] S (sv_up (sv_row (sv_up (sv_up (sv_row (sv_up (sv_up (sv_row (sv_up (sv_up (sv_row (sv_up (sv_up (sv_row (sv_up S 1100000 0 (1 : Int)) 92 (fun i' : Int => if i' < (2000 : Int) then (S 34 i') else (0 : Int))) 1061 0 (92 : Int)) 1100000 0 (2 : Int)) 93 (fun i' : Int => if i' < (2000 : Int) then (S 35 i') else (0 : Int))) 1062 0 (93 : Int)) 1100000 0 (3 : Int)) 94 (fun i' : Int => if i' < (2000 : Int) then (S 36 i') else (0 : Int))) 1063 0 (94 : Int)) 1100000 0 (4 : Int)) 95 (fun i' : Int => if i' < (2000 : Int) then (S 37 i') else (0 : Int))) 1064 0 (95 : Int)) 1100000 0 (5 : Int)) 96 (fun i' : Int => if i' < (2000 : Int) then (S 38 i') else (0 : Int))) 1065 0 (96 : Int)) := sv_mod.up md72 (by decide)
    refine sv_aload_n hM dX12_wrapIn_67 rfl rfl ?_
    refine sv_getY hM dX12_wrapIn_68 sm_fl_113 (sm_a0 _) (j := 92) (sm_k61 _) rfl ?_
    refine sv_aload_n hM dX12_wrapIn_71 rfl rfl ?_
    refine sv_getI hM dX12_wrapIn_72 sm_fl_637 (sm_a0 _) sm_k59 rfl (x := (S 1059 0)) rfl ?_
    refine sv_iload_n hM dX12_wrapIn_75 rfl rfl ?_
    obtain ⟨o76, h⟩ := h
    refine sv_iast sm_X hM dX12_wrapIn_76 (sm_aD (m := 5) (q := 0) rfl (by decide) (by decide)) (by decide) o76.1 o76.2 rfl ?_
    have ok77 : sm_ok (sv_up (sv_up (sv_row (sv_up (sv_up (sv_row (sv_up (sv_up (sv_row (sv_up (sv_up (sv_row (sv_up (sv_up (sv_row (sv_up S 1100000 0 (1 : Int)) 92 (fun i' : Int => if i' < (2000 : Int) then (S 34 i') else (0 : Int))) 1061 0 (92 : Int)) 1100000 0 (2 : Int)) 93 (fun i' : Int => if i' < (2000 : Int) then (S 35 i') else (0 : Int))) 1062 0 (93 : Int)) 1100000 0 (3 : Int)) 94 (fun i' : Int => if i' < (2000 : Int) then (S 36 i') else (0 : Int))) 1063 0 (94 : Int)) 1100000 0 (4 : Int)) 95 (fun i' : Int => if i' < (2000 : Int) then (S 37 i') else (0 : Int))) 1064 0 (95 : Int)) 1100000 0 (5 : Int)) 96 (fun i' : Int => if i' < (2000 : Int) then (S 38 i') else (0 : Int))) 1065 0 (96 : Int)) 92 (S 1059 0) p1) := sm_upI ok74 sm_r92 hp1
    have md78 : sv_mod [1059, 1060, 1100000, 1061, 1062, 1063, 1064, 1065, 34, 35, 36, 37, 38, 92, 93, 94, 95, 96, 97, 98, 99, 100, 101, 1100037, 1100038, 1100039, 1100040, 1100041] S (sv_up (sv_up (sv_row (sv_up (sv_up (sv_row (sv_up (sv_up (sv_row (sv_up (sv_up (sv_row (sv_up (sv_up (sv_row (sv_up S 1100000 0 (1 : Int)) 92 (fun i' : Int => if i' < (2000 : Int) then (S 34 i') else (0 : Int))) 1061 0 (92 : Int)) 1100000 0 (2 : Int)) 93 (fun i' : Int => if i' < (2000 : Int) then (S 35 i') else (0 : Int))) 1062 0 (93 : Int)) 1100000 0 (3 : Int)) 94 (fun i' : Int => if i' < (2000 : Int) then (S 36 i') else (0 : Int))) 1063 0 (94 : Int)) 1100000 0 (4 : Int)) 95 (fun i' : Int => if i' < (2000 : Int) then (S 37 i') else (0 : Int))) 1064 0 (95 : Int)) 1100000 0 (5 : Int)) 96 (fun i' : Int => if i' < (2000 : Int) then (S 38 i') else (0 : Int))) 1065 0 (96 : Int)) 92 (S 1059 0) p1) := sv_mod.up md75 (by decide)
    refine sv_aload_n hM dX12_wrapIn_77 rfl rfl ?_
    refine sv_getY hM dX12_wrapIn_78 sm_fl_116 (sm_a0 _) (j := 93) (sm_k62 _) rfl ?_
    refine sv_aload_n hM dX12_wrapIn_81 rfl rfl ?_
    refine sv_getI hM dX12_wrapIn_82 sm_fl_637 (sm_a0 _) sm_k59 rfl (x := (S 1059 0)) rfl ?_
    refine sv_iload_n hM dX12_wrapIn_85 rfl rfl ?_
    refine sv_iast sm_X hM dX12_wrapIn_86 (sm_aD (m := 5) (q := 1) rfl (by decide) (by decide)) (by decide) o76.1 o76.2 rfl ?_
    have ok79 : sm_ok (sv_up (sv_up (sv_up (sv_row (sv_up (sv_up (sv_row (sv_up (sv_up (sv_row (sv_up (sv_up (sv_row (sv_up (sv_up (sv_row (sv_up S 1100000 0 (1 : Int)) 92 (fun i' : Int => if i' < (2000 : Int) then (S 34 i') else (0 : Int))) 1061 0 (92 : Int)) 1100000 0 (2 : Int)) 93 (fun i' : Int => if i' < (2000 : Int) then (S 35 i') else (0 : Int))) 1062 0 (93 : Int)) 1100000 0 (3 : Int)) 94 (fun i' : Int => if i' < (2000 : Int) then (S 36 i') else (0 : Int))) 1063 0 (94 : Int)) 1100000 0 (4 : Int)) 95 (fun i' : Int => if i' < (2000 : Int) then (S 37 i') else (0 : Int))) 1064 0 (95 : Int)) 1100000 0 (5 : Int)) 96 (fun i' : Int => if i' < (2000 : Int) then (S 38 i') else (0 : Int))) 1065 0 (96 : Int)) 92 (S 1059 0) p1) 93 (S 1059 0) p2) := sm_upI ok77 sm_r93 hp2
    have md80 : sv_mod [1059, 1060, 1100000, 1061, 1062, 1063, 1064, 1065, 34, 35, 36, 37, 38, 92, 93, 94, 95, 96, 97, 98, 99, 100, 101, 1100037, 1100038, 1100039, 1100040, 1100041] S (sv_up (sv_up (sv_up (sv_row (sv_up (sv_up (sv_row (sv_up (sv_up (sv_row (sv_up (sv_up (sv_row (sv_up (sv_up (sv_row (sv_up S 1100000 0 (1 : Int)) 92 (fun i' : Int => if i' < (2000 : Int) then (S 34 i') else (0 : Int))) 1061 0 (92 : Int)) 1100000 0 (2 : Int)) 93 (fun i' : Int => if i' < (2000 : Int) then (S 35 i') else (0 : Int))) 1062 0 (93 : Int)) 1100000 0 (3 : Int)) 94 (fun i' : Int => if i' < (2000 : Int) then (S 36 i') else (0 : Int))) 1063 0 (94 : Int)) 1100000 0 (4 : Int)) 95 (fun i' : Int => if i' < (2000 : Int) then (S 37 i') else (0 : Int))) 1064 0 (95 : Int)) 1100000 0 (5 : Int)) 96 (fun i' : Int => if i' < (2000 : Int) then (S 38 i') else (0 : Int))) 1065 0 (96 : Int)) 92 (S 1059 0) p1) 93 (S 1059 0) p2) := sv_mod.up md78 (by decide)
    refine sv_aload_n hM dX12_wrapIn_87 rfl rfl ?_
    refine sv_getY hM dX12_wrapIn_88 sm_fl_119 (sm_a0 _) (j := 94) (sm_k63 _) rfl ?_
    refine sv_aload_n hM dX12_wrapIn_91 rfl rfl ?_
    refine sv_getI hM dX12_wrapIn_92 sm_fl_637 (sm_a0 _) sm_k59 rfl (x := (S 1059 0)) rfl ?_
    refine sv_iload_n hM dX12_wrapIn_95 rfl rfl ?_
    refine sv_iast sm_X hM dX12_wrapIn_96 (sm_aD (m := 5) (q := 2) rfl (by decide) (by decide)) (by decide) o76.1 o76.2 rfl ?_
    have ok81 : sm_ok (sv_up (sv_up (sv_up (sv_up (sv_row (sv_up (sv_up (sv_row (sv_up (sv_up (sv_row (sv_up (sv_up (sv_row (sv_up (sv_up (sv_row (sv_up S 1100000 0 (1 : Int)) 92 (fun i' : Int => if i' < (2000 : Int) then (S 34 i') else (0 : Int))) 1061 0 (92 : Int)) 1100000 0 (2 : Int)) 93 (fun i' : Int => if i' < (2000 : Int) then (S 35 i') else (0 : Int))) 1062 0 (93 : Int)) 1100000 0 (3 : Int)) 94 (fun i' : Int => if i' < (2000 : Int) then (S 36 i') else (0 : Int))) 1063 0 (94 : Int)) 1100000 0 (4 : Int)) 95 (fun i' : Int => if i' < (2000 : Int) then (S 37 i') else (0 : Int))) 1064 0 (95 : Int)) 1100000 0 (5 : Int)) 96 (fun i' : Int => if i' < (2000 : Int) then (S 38 i') else (0 : Int))) 1065 0 (96 : Int)) 92 (S 1059 0) p1) 93 (S 1059 0) p2) 94 (S 1059 0) p3) := sm_upI ok79 sm_r94 hp3
    have md82 : sv_mod [1059, 1060, 1100000, 1061, 1062, 1063, 1064, 1065, 34, 35, 36, 37, 38, 92, 93, 94, 95, 96, 97, 98, 99, 100, 101, 1100037, 1100038, 1100039, 1100040, 1100041] S (sv_up (sv_up (sv_up (sv_up (sv_row (sv_up (sv_up (sv_row (sv_up (sv_up (sv_row (sv_up (sv_up (sv_row (sv_up (sv_up (sv_row (sv_up S 1100000 0 (1 : Int)) 92 (fun i' : Int => if i' < (2000 : Int) then (S 34 i') else (0 : Int))) 1061 0 (92 : Int)) 1100000 0 (2 : Int)) 93 (fun i' : Int => if i' < (2000 : Int) then (S 35 i') else (0 : Int))) 1062 0 (93 : Int)) 1100000 0 (3 : Int)) 94 (fun i' : Int => if i' < (2000 : Int) then (S 36 i') else (0 : Int))) 1063 0 (94 : Int)) 1100000 0 (4 : Int)) 95 (fun i' : Int => if i' < (2000 : Int) then (S 37 i') else (0 : Int))) 1064 0 (95 : Int)) 1100000 0 (5 : Int)) 96 (fun i' : Int => if i' < (2000 : Int) then (S 38 i') else (0 : Int))) 1065 0 (96 : Int)) 92 (S 1059 0) p1) 93 (S 1059 0) p2) 94 (S 1059 0) p3) := sv_mod.up md80 (by decide)
    refine sv_aload_n hM dX12_wrapIn_97 rfl rfl ?_
    refine sv_getY hM dX12_wrapIn_98 sm_fl_122 (sm_a0 _) (j := 95) (sm_k64 _) rfl ?_
    refine sv_aload_n hM dX12_wrapIn_101 rfl rfl ?_
    refine sv_getI hM dX12_wrapIn_102 sm_fl_637 (sm_a0 _) sm_k59 rfl (x := (S 1059 0)) rfl ?_
    refine sv_iload hM dX12_wrapIn_105 rfl rfl ?_
    refine sv_iast sm_X hM dX12_wrapIn_107 (sm_aD (m := 5) (q := 3) rfl (by decide) (by decide)) (by decide) o76.1 o76.2 rfl ?_
    have ok83 : sm_ok (sv_up (sv_up (sv_up (sv_up (sv_up (sv_row (sv_up (sv_up (sv_row (sv_up (sv_up (sv_row (sv_up (sv_up (sv_row (sv_up (sv_up (sv_row (sv_up S 1100000 0 (1 : Int)) 92 (fun i' : Int => if i' < (2000 : Int) then (S 34 i') else (0 : Int))) 1061 0 (92 : Int)) 1100000 0 (2 : Int)) 93 (fun i' : Int => if i' < (2000 : Int) then (S 35 i') else (0 : Int))) 1062 0 (93 : Int)) 1100000 0 (3 : Int)) 94 (fun i' : Int => if i' < (2000 : Int) then (S 36 i') else (0 : Int))) 1063 0 (94 : Int)) 1100000 0 (4 : Int)) 95 (fun i' : Int => if i' < (2000 : Int) then (S 37 i') else (0 : Int))) 1064 0 (95 : Int)) 1100000 0 (5 : Int)) 96 (fun i' : Int => if i' < (2000 : Int) then (S 38 i') else (0 : Int))) 1065 0 (96 : Int)) 92 (S 1059 0) p1) 93 (S 1059 0) p2) 94 (S 1059 0) p3) 95 (S 1059 0) p4) := sm_upI ok81 sm_r95 hp4
    have md84 : sv_mod [1059, 1060, 1100000, 1061, 1062, 1063, 1064, 1065, 34, 35, 36, 37, 38, 92, 93, 94, 95, 96, 97, 98, 99, 100, 101, 1100037, 1100038, 1100039, 1100040, 1100041] S (sv_up (sv_up (sv_up (sv_up (sv_up (sv_row (sv_up (sv_up (sv_row (sv_up (sv_up (sv_row (sv_up (sv_up (sv_row (sv_up (sv_up (sv_row (sv_up S 1100000 0 (1 : Int)) 92 (fun i' : Int => if i' < (2000 : Int) then (S 34 i') else (0 : Int))) 1061 0 (92 : Int)) 1100000 0 (2 : Int)) 93 (fun i' : Int => if i' < (2000 : Int) then (S 35 i') else (0 : Int))) 1062 0 (93 : Int)) 1100000 0 (3 : Int)) 94 (fun i' : Int => if i' < (2000 : Int) then (S 36 i') else (0 : Int))) 1063 0 (94 : Int)) 1100000 0 (4 : Int)) 95 (fun i' : Int => if i' < (2000 : Int) then (S 37 i') else (0 : Int))) 1064 0 (95 : Int)) 1100000 0 (5 : Int)) 96 (fun i' : Int => if i' < (2000 : Int) then (S 38 i') else (0 : Int))) 1065 0 (96 : Int)) 92 (S 1059 0) p1) 93 (S 1059 0) p2) 94 (S 1059 0) p3) 95 (S 1059 0) p4) := sv_mod.up md82 (by decide)
    refine sv_aload_n hM dX12_wrapIn_108 rfl rfl ?_
    refine sv_getY hM dX12_wrapIn_109 sm_fl_125 (sm_a0 _) (j := 96) (sm_k65 _) rfl ?_
    refine sv_aload_n hM dX12_wrapIn_112 rfl rfl ?_
    refine sv_getI hM dX12_wrapIn_113 sm_fl_637 (sm_a0 _) sm_k59 rfl (x := (S 1059 0)) rfl ?_
    refine sv_aload_n hM dX12_wrapIn_116 rfl rfl ?_
    have k85 : sv_R (S 1060 0) := sm_okI ok83 sm_r1060 0
    have h := h k85
    refine sv_getI hM dX12_wrapIn_117 sm_fl_634 (sm_a0 _) sm_k60 rfl (x := (S 1060 0)) rfl ?_
    refine sv_iast sm_X hM dX12_wrapIn_120 (sm_aD (m := 5) (q := 4) rfl (by decide) (by decide)) (by decide) o76.1 o76.2 rfl ?_
    have ok86 : sm_ok (sv_up (sv_up (sv_up (sv_up (sv_up (sv_up (sv_row (sv_up (sv_up (sv_row (sv_up (sv_up (sv_row (sv_up (sv_up (sv_row (sv_up (sv_up (sv_row (sv_up S 1100000 0 (1 : Int)) 92 (fun i' : Int => if i' < (2000 : Int) then (S 34 i') else (0 : Int))) 1061 0 (92 : Int)) 1100000 0 (2 : Int)) 93 (fun i' : Int => if i' < (2000 : Int) then (S 35 i') else (0 : Int))) 1062 0 (93 : Int)) 1100000 0 (3 : Int)) 94 (fun i' : Int => if i' < (2000 : Int) then (S 36 i') else (0 : Int))) 1063 0 (94 : Int)) 1100000 0 (4 : Int)) 95 (fun i' : Int => if i' < (2000 : Int) then (S 37 i') else (0 : Int))) 1064 0 (95 : Int)) 1100000 0 (5 : Int)) 96 (fun i' : Int => if i' < (2000 : Int) then (S 38 i') else (0 : Int))) 1065 0 (96 : Int)) 92 (S 1059 0) p1) 93 (S 1059 0) p2) 94 (S 1059 0) p3) 95 (S 1059 0) p4) 96 (S 1059 0) (S 1060 0)) := sm_upI ok83 sm_r96 k85
    have md87 : sv_mod [1059, 1060, 1100000, 1061, 1062, 1063, 1064, 1065, 34, 35, 36, 37, 38, 92, 93, 94, 95, 96, 97, 98, 99, 100, 101, 1100037, 1100038, 1100039, 1100040, 1100041] S (sv_up (sv_up (sv_up (sv_up (sv_up (sv_up (sv_row (sv_up (sv_up (sv_row (sv_up (sv_up (sv_row (sv_up (sv_up (sv_row (sv_up (sv_up (sv_row (sv_up S 1100000 0 (1 : Int)) 92 (fun i' : Int => if i' < (2000 : Int) then (S 34 i') else (0 : Int))) 1061 0 (92 : Int)) 1100000 0 (2 : Int)) 93 (fun i' : Int => if i' < (2000 : Int) then (S 35 i') else (0 : Int))) 1062 0 (93 : Int)) 1100000 0 (3 : Int)) 94 (fun i' : Int => if i' < (2000 : Int) then (S 36 i') else (0 : Int))) 1063 0 (94 : Int)) 1100000 0 (4 : Int)) 95 (fun i' : Int => if i' < (2000 : Int) then (S 37 i') else (0 : Int))) 1064 0 (95 : Int)) 1100000 0 (5 : Int)) 96 (fun i' : Int => if i' < (2000 : Int) then (S 38 i') else (0 : Int))) 1065 0 (96 : Int)) 92 (S 1059 0) p1) 93 (S 1059 0) p2) 94 (S 1059 0) p3) 95 (S 1059 0) p4) 96 (S 1059 0) (S 1060 0)) := sv_mod.up md84 (by decide)
    refine sv_aload_n hM dX12_wrapIn_121 rfl rfl ?_
    refine sv_aload_n hM dX12_wrapIn_122 rfl rfl ?_
    refine sv_getI hM dX12_wrapIn_123 sm_fl_637 (sm_a0 _) sm_k59 rfl (x := (S 1059 0)) rfl ?_
    refine sv_putI sm_X hM dX12_wrapIn_126 sm_fp_634 (sm_a0 _) sm_q60 (Or.inl rfl) rfl rfl rfl rfl ?_
    have ok88 : sm_ok (sv_up (sv_up (sv_up (sv_up (sv_up (sv_up (sv_up (sv_row (sv_up (sv_up (sv_row (sv_up (sv_up (sv_row (sv_up (sv_up (sv_row (sv_up (sv_up (sv_row (sv_up S 1100000 0 (1 : Int)) 92 (fun i' : Int => if i' < (2000 : Int) then (S 34 i') else (0 : Int))) 1061 0 (92 : Int)) 1100000 0 (2 : Int)) 93 (fun i' : Int => if i' < (2000 : Int) then (S 35 i') else (0 : Int))) 1062 0 (93 : Int)) 1100000 0 (3 : Int)) 94 (fun i' : Int => if i' < (2000 : Int) then (S 36 i') else (0 : Int))) 1063 0 (94 : Int)) 1100000 0 (4 : Int)) 95 (fun i' : Int => if i' < (2000 : Int) then (S 37 i') else (0 : Int))) 1064 0 (95 : Int)) 1100000 0 (5 : Int)) 96 (fun i' : Int => if i' < (2000 : Int) then (S 38 i') else (0 : Int))) 1065 0 (96 : Int)) 92 (S 1059 0) p1) 93 (S 1059 0) p2) 94 (S 1059 0) p3) 95 (S 1059 0) p4) 96 (S 1059 0) (S 1060 0)) 1060 0 (S 1059 0)) := sm_upI ok86 sm_r1060 k1
    have md89 : sv_mod [1059, 1060, 1100000, 1061, 1062, 1063, 1064, 1065, 34, 35, 36, 37, 38, 92, 93, 94, 95, 96, 97, 98, 99, 100, 101, 1100037, 1100038, 1100039, 1100040, 1100041] S (sv_up (sv_up (sv_up (sv_up (sv_up (sv_up (sv_up (sv_row (sv_up (sv_up (sv_row (sv_up (sv_up (sv_row (sv_up (sv_up (sv_row (sv_up (sv_up (sv_row (sv_up S 1100000 0 (1 : Int)) 92 (fun i' : Int => if i' < (2000 : Int) then (S 34 i') else (0 : Int))) 1061 0 (92 : Int)) 1100000 0 (2 : Int)) 93 (fun i' : Int => if i' < (2000 : Int) then (S 35 i') else (0 : Int))) 1062 0 (93 : Int)) 1100000 0 (3 : Int)) 94 (fun i' : Int => if i' < (2000 : Int) then (S 36 i') else (0 : Int))) 1063 0 (94 : Int)) 1100000 0 (4 : Int)) 95 (fun i' : Int => if i' < (2000 : Int) then (S 37 i') else (0 : Int))) 1064 0 (95 : Int)) 1100000 0 (5 : Int)) 96 (fun i' : Int => if i' < (2000 : Int) then (S 38 i') else (0 : Int))) 1065 0 (96 : Int)) 92 (S 1059 0) p1) 93 (S 1059 0) p2) 94 (S 1059 0) p3) 95 (S 1059 0) p4) 96 (S 1059 0) (S 1060 0)) 1060 0 (S 1059 0)) := sv_mod.up md87 (by decide)
    refine sv_aload_n hM dX12_wrapIn_129 rfl rfl ?_
    refine sv_dupA hM dX12_wrapIn_130 rfl ?_
    refine sv_getI hM dX12_wrapIn_131 sm_fl_637 (sm_a0 _) sm_k59 rfl (x := (S 1059 0)) rfl ?_
    refine sv_iconst (d := (1 : Int)) hM dX12_wrapIn_134 rfl rfl ?_
    refine sv_iadd hM dX12_wrapIn_135 rfl ?_
    obtain ⟨o90, h⟩ := h
    refine sv_putI sm_X hM dX12_wrapIn_136 sm_fp_637 (sm_a0 _) sm_q59 (Or.inl rfl) rfl rfl rfl rfl ?_
    have ok91 : sm_ok (sv_up (sv_up (sv_up (sv_up (sv_up (sv_up (sv_up (sv_up (sv_row (sv_up (sv_up (sv_row (sv_up (sv_up (sv_row (sv_up (sv_up (sv_row (sv_up (sv_up (sv_row (sv_up S 1100000 0 (1 : Int)) 92 (fun i' : Int => if i' < (2000 : Int) then (S 34 i') else (0 : Int))) 1061 0 (92 : Int)) 1100000 0 (2 : Int)) 93 (fun i' : Int => if i' < (2000 : Int) then (S 35 i') else (0 : Int))) 1062 0 (93 : Int)) 1100000 0 (3 : Int)) 94 (fun i' : Int => if i' < (2000 : Int) then (S 36 i') else (0 : Int))) 1063 0 (94 : Int)) 1100000 0 (4 : Int)) 95 (fun i' : Int => if i' < (2000 : Int) then (S 37 i') else (0 : Int))) 1064 0 (95 : Int)) 1100000 0 (5 : Int)) 96 (fun i' : Int => if i' < (2000 : Int) then (S 38 i') else (0 : Int))) 1065 0 (96 : Int)) 92 (S 1059 0) p1) 93 (S 1059 0) p2) 94 (S 1059 0) p3) 95 (S 1059 0) p4) 96 (S 1059 0) (S 1060 0)) 1060 0 (S 1059 0)) 1059 0 ((S 1059 0) + (1 : Int))) := sm_upI ok88 sm_r1059 o90
    have md92 : sv_mod [1059, 1060, 1100000, 1061, 1062, 1063, 1064, 1065, 34, 35, 36, 37, 38, 92, 93, 94, 95, 96, 97, 98, 99, 100, 101, 1100037, 1100038, 1100039, 1100040, 1100041] S (sv_up (sv_up (sv_up (sv_up (sv_up (sv_up (sv_up (sv_up (sv_row (sv_up (sv_up (sv_row (sv_up (sv_up (sv_row (sv_up (sv_up (sv_row (sv_up (sv_up (sv_row (sv_up S 1100000 0 (1 : Int)) 92 (fun i' : Int => if i' < (2000 : Int) then (S 34 i') else (0 : Int))) 1061 0 (92 : Int)) 1100000 0 (2 : Int)) 93 (fun i' : Int => if i' < (2000 : Int) then (S 35 i') else (0 : Int))) 1062 0 (93 : Int)) 1100000 0 (3 : Int)) 94 (fun i' : Int => if i' < (2000 : Int) then (S 36 i') else (0 : Int))) 1063 0 (94 : Int)) 1100000 0 (4 : Int)) 95 (fun i' : Int => if i' < (2000 : Int) then (S 37 i') else (0 : Int))) 1064 0 (95 : Int)) 1100000 0 (5 : Int)) 96 (fun i' : Int => if i' < (2000 : Int) then (S 38 i') else (0 : Int))) 1065 0 (96 : Int)) 92 (S 1059 0) p1) 93 (S 1059 0) p2) 94 (S 1059 0) p3) 95 (S 1059 0) p4) 96 (S 1059 0) (S 1060 0)) 1060 0 (S 1059 0)) 1059 0 ((S 1059 0) + (1 : Int))) := sv_mod.up md89 (by decide)
    obtain ⟨o93, h⟩ := h
    refine sv_ghost sm_X 1100037 (((S 1059 0) + (1 : Int)) - 1) (p1) (by decide) ?_
    have ok94 : sm_ok (sv_up (sv_up (sv_up (sv_up (sv_up (sv_up (sv_up (sv_up (sv_up (sv_row (sv_up (sv_up (sv_row (sv_up (sv_up (sv_row (sv_up (sv_up (sv_row (sv_up (sv_up (sv_row (sv_up S 1100000 0 (1 : Int)) 92 (fun i' : Int => if i' < (2000 : Int) then (S 34 i') else (0 : Int))) 1061 0 (92 : Int)) 1100000 0 (2 : Int)) 93 (fun i' : Int => if i' < (2000 : Int) then (S 35 i') else (0 : Int))) 1062 0 (93 : Int)) 1100000 0 (3 : Int)) 94 (fun i' : Int => if i' < (2000 : Int) then (S 36 i') else (0 : Int))) 1063 0 (94 : Int)) 1100000 0 (4 : Int)) 95 (fun i' : Int => if i' < (2000 : Int) then (S 37 i') else (0 : Int))) 1064 0 (95 : Int)) 1100000 0 (5 : Int)) 96 (fun i' : Int => if i' < (2000 : Int) then (S 38 i') else (0 : Int))) 1065 0 (96 : Int)) 92 (S 1059 0) p1) 93 (S 1059 0) p2) 94 (S 1059 0) p3) 95 (S 1059 0) p4) 96 (S 1059 0) (S 1060 0)) 1060 0 (S 1059 0)) 1059 0 ((S 1059 0) + (1 : Int))) 1100037 (((S 1059 0) + (1 : Int)) - 1) (p1)) := sm_upI ok91 sm_r1100037 o93
    have md95 : sv_mod [1059, 1060, 1100000, 1061, 1062, 1063, 1064, 1065, 34, 35, 36, 37, 38, 92, 93, 94, 95, 96, 97, 98, 99, 100, 101, 1100037, 1100038, 1100039, 1100040, 1100041] S (sv_up (sv_up (sv_up (sv_up (sv_up (sv_up (sv_up (sv_up (sv_up (sv_row (sv_up (sv_up (sv_row (sv_up (sv_up (sv_row (sv_up (sv_up (sv_row (sv_up (sv_up (sv_row (sv_up S 1100000 0 (1 : Int)) 92 (fun i' : Int => if i' < (2000 : Int) then (S 34 i') else (0 : Int))) 1061 0 (92 : Int)) 1100000 0 (2 : Int)) 93 (fun i' : Int => if i' < (2000 : Int) then (S 35 i') else (0 : Int))) 1062 0 (93 : Int)) 1100000 0 (3 : Int)) 94 (fun i' : Int => if i' < (2000 : Int) then (S 36 i') else (0 : Int))) 1063 0 (94 : Int)) 1100000 0 (4 : Int)) 95 (fun i' : Int => if i' < (2000 : Int) then (S 37 i') else (0 : Int))) 1064 0 (95 : Int)) 1100000 0 (5 : Int)) 96 (fun i' : Int => if i' < (2000 : Int) then (S 38 i') else (0 : Int))) 1065 0 (96 : Int)) 92 (S 1059 0) p1) 93 (S 1059 0) p2) 94 (S 1059 0) p3) 95 (S 1059 0) p4) 96 (S 1059 0) (S 1060 0)) 1060 0 (S 1059 0)) 1059 0 ((S 1059 0) + (1 : Int))) 1100037 (((S 1059 0) + (1 : Int)) - 1) (p1)) := sv_mod.up md92 (by decide)
    obtain ⟨o96, h⟩ := h
    refine sv_ghost sm_X 1100038 (((S 1059 0) + (1 : Int)) - 1) (p2) (by decide) ?_
    have ok97 : sm_ok (sv_up (sv_up (sv_up (sv_up (sv_up (sv_up (sv_up (sv_up (sv_up (sv_up (sv_row (sv_up (sv_up (sv_row (sv_up (sv_up (sv_row (sv_up (sv_up (sv_row (sv_up (sv_up (sv_row (sv_up S 1100000 0 (1 : Int)) 92 (fun i' : Int => if i' < (2000 : Int) then (S 34 i') else (0 : Int))) 1061 0 (92 : Int)) 1100000 0 (2 : Int)) 93 (fun i' : Int => if i' < (2000 : Int) then (S 35 i') else (0 : Int))) 1062 0 (93 : Int)) 1100000 0 (3 : Int)) 94 (fun i' : Int => if i' < (2000 : Int) then (S 36 i') else (0 : Int))) 1063 0 (94 : Int)) 1100000 0 (4 : Int)) 95 (fun i' : Int => if i' < (2000 : Int) then (S 37 i') else (0 : Int))) 1064 0 (95 : Int)) 1100000 0 (5 : Int)) 96 (fun i' : Int => if i' < (2000 : Int) then (S 38 i') else (0 : Int))) 1065 0 (96 : Int)) 92 (S 1059 0) p1) 93 (S 1059 0) p2) 94 (S 1059 0) p3) 95 (S 1059 0) p4) 96 (S 1059 0) (S 1060 0)) 1060 0 (S 1059 0)) 1059 0 ((S 1059 0) + (1 : Int))) 1100037 (((S 1059 0) + (1 : Int)) - 1) (p1)) 1100038 (((S 1059 0) + (1 : Int)) - 1) (p2)) := sm_upI ok94 sm_r1100038 o96
    have md98 : sv_mod [1059, 1060, 1100000, 1061, 1062, 1063, 1064, 1065, 34, 35, 36, 37, 38, 92, 93, 94, 95, 96, 97, 98, 99, 100, 101, 1100037, 1100038, 1100039, 1100040, 1100041] S (sv_up (sv_up (sv_up (sv_up (sv_up (sv_up (sv_up (sv_up (sv_up (sv_up (sv_row (sv_up (sv_up (sv_row (sv_up (sv_up (sv_row (sv_up (sv_up (sv_row (sv_up (sv_up (sv_row (sv_up S 1100000 0 (1 : Int)) 92 (fun i' : Int => if i' < (2000 : Int) then (S 34 i') else (0 : Int))) 1061 0 (92 : Int)) 1100000 0 (2 : Int)) 93 (fun i' : Int => if i' < (2000 : Int) then (S 35 i') else (0 : Int))) 1062 0 (93 : Int)) 1100000 0 (3 : Int)) 94 (fun i' : Int => if i' < (2000 : Int) then (S 36 i') else (0 : Int))) 1063 0 (94 : Int)) 1100000 0 (4 : Int)) 95 (fun i' : Int => if i' < (2000 : Int) then (S 37 i') else (0 : Int))) 1064 0 (95 : Int)) 1100000 0 (5 : Int)) 96 (fun i' : Int => if i' < (2000 : Int) then (S 38 i') else (0 : Int))) 1065 0 (96 : Int)) 92 (S 1059 0) p1) 93 (S 1059 0) p2) 94 (S 1059 0) p3) 95 (S 1059 0) p4) 96 (S 1059 0) (S 1060 0)) 1060 0 (S 1059 0)) 1059 0 ((S 1059 0) + (1 : Int))) 1100037 (((S 1059 0) + (1 : Int)) - 1) (p1)) 1100038 (((S 1059 0) + (1 : Int)) - 1) (p2)) := sv_mod.up md95 (by decide)
    obtain ⟨o99, h⟩ := h
    refine sv_ghost sm_X 1100039 (((S 1059 0) + (1 : Int)) - 1) (p3) (by decide) ?_
    have ok100 : sm_ok (sv_up (sv_up (sv_up (sv_up (sv_up (sv_up (sv_up (sv_up (sv_up (sv_up (sv_up (sv_row (sv_up (sv_up (sv_row (sv_up (sv_up (sv_row (sv_up (sv_up (sv_row (sv_up (sv_up (sv_row (sv_up S 1100000 0 (1 : Int)) 92 (fun i' : Int => if i' < (2000 : Int) then (S 34 i') else (0 : Int))) 1061 0 (92 : Int)) 1100000 0 (2 : Int)) 93 (fun i' : Int => if i' < (2000 : Int) then (S 35 i') else (0 : Int))) 1062 0 (93 : Int)) 1100000 0 (3 : Int)) 94 (fun i' : Int => if i' < (2000 : Int) then (S 36 i') else (0 : Int))) 1063 0 (94 : Int)) 1100000 0 (4 : Int)) 95 (fun i' : Int => if i' < (2000 : Int) then (S 37 i') else (0 : Int))) 1064 0 (95 : Int)) 1100000 0 (5 : Int)) 96 (fun i' : Int => if i' < (2000 : Int) then (S 38 i') else (0 : Int))) 1065 0 (96 : Int)) 92 (S 1059 0) p1) 93 (S 1059 0) p2) 94 (S 1059 0) p3) 95 (S 1059 0) p4) 96 (S 1059 0) (S 1060 0)) 1060 0 (S 1059 0)) 1059 0 ((S 1059 0) + (1 : Int))) 1100037 (((S 1059 0) + (1 : Int)) - 1) (p1)) 1100038 (((S 1059 0) + (1 : Int)) - 1) (p2)) 1100039 (((S 1059 0) + (1 : Int)) - 1) (p3)) := sm_upI ok97 sm_r1100039 o99
    have md101 : sv_mod [1059, 1060, 1100000, 1061, 1062, 1063, 1064, 1065, 34, 35, 36, 37, 38, 92, 93, 94, 95, 96, 97, 98, 99, 100, 101, 1100037, 1100038, 1100039, 1100040, 1100041] S (sv_up (sv_up (sv_up (sv_up (sv_up (sv_up (sv_up (sv_up (sv_up (sv_up (sv_up (sv_row (sv_up (sv_up (sv_row (sv_up (sv_up (sv_row (sv_up (sv_up (sv_row (sv_up (sv_up (sv_row (sv_up S 1100000 0 (1 : Int)) 92 (fun i' : Int => if i' < (2000 : Int) then (S 34 i') else (0 : Int))) 1061 0 (92 : Int)) 1100000 0 (2 : Int)) 93 (fun i' : Int => if i' < (2000 : Int) then (S 35 i') else (0 : Int))) 1062 0 (93 : Int)) 1100000 0 (3 : Int)) 94 (fun i' : Int => if i' < (2000 : Int) then (S 36 i') else (0 : Int))) 1063 0 (94 : Int)) 1100000 0 (4 : Int)) 95 (fun i' : Int => if i' < (2000 : Int) then (S 37 i') else (0 : Int))) 1064 0 (95 : Int)) 1100000 0 (5 : Int)) 96 (fun i' : Int => if i' < (2000 : Int) then (S 38 i') else (0 : Int))) 1065 0 (96 : Int)) 92 (S 1059 0) p1) 93 (S 1059 0) p2) 94 (S 1059 0) p3) 95 (S 1059 0) p4) 96 (S 1059 0) (S 1060 0)) 1060 0 (S 1059 0)) 1059 0 ((S 1059 0) + (1 : Int))) 1100037 (((S 1059 0) + (1 : Int)) - 1) (p1)) 1100038 (((S 1059 0) + (1 : Int)) - 1) (p2)) 1100039 (((S 1059 0) + (1 : Int)) - 1) (p3)) := sv_mod.up md98 (by decide)
    obtain ⟨o102, h⟩ := h
    refine sv_ghost sm_X 1100040 (((S 1059 0) + (1 : Int)) - 1) (p4) (by decide) ?_
    have ok103 : sm_ok (sv_up (sv_up (sv_up (sv_up (sv_up (sv_up (sv_up (sv_up (sv_up (sv_up (sv_up (sv_up (sv_row (sv_up (sv_up (sv_row (sv_up (sv_up (sv_row (sv_up (sv_up (sv_row (sv_up (sv_up (sv_row (sv_up S 1100000 0 (1 : Int)) 92 (fun i' : Int => if i' < (2000 : Int) then (S 34 i') else (0 : Int))) 1061 0 (92 : Int)) 1100000 0 (2 : Int)) 93 (fun i' : Int => if i' < (2000 : Int) then (S 35 i') else (0 : Int))) 1062 0 (93 : Int)) 1100000 0 (3 : Int)) 94 (fun i' : Int => if i' < (2000 : Int) then (S 36 i') else (0 : Int))) 1063 0 (94 : Int)) 1100000 0 (4 : Int)) 95 (fun i' : Int => if i' < (2000 : Int) then (S 37 i') else (0 : Int))) 1064 0 (95 : Int)) 1100000 0 (5 : Int)) 96 (fun i' : Int => if i' < (2000 : Int) then (S 38 i') else (0 : Int))) 1065 0 (96 : Int)) 92 (S 1059 0) p1) 93 (S 1059 0) p2) 94 (S 1059 0) p3) 95 (S 1059 0) p4) 96 (S 1059 0) (S 1060 0)) 1060 0 (S 1059 0)) 1059 0 ((S 1059 0) + (1 : Int))) 1100037 (((S 1059 0) + (1 : Int)) - 1) (p1)) 1100038 (((S 1059 0) + (1 : Int)) - 1) (p2)) 1100039 (((S 1059 0) + (1 : Int)) - 1) (p3)) 1100040 (((S 1059 0) + (1 : Int)) - 1) (p4)) := sm_upI ok100 sm_r1100040 o102
    have md104 : sv_mod [1059, 1060, 1100000, 1061, 1062, 1063, 1064, 1065, 34, 35, 36, 37, 38, 92, 93, 94, 95, 96, 97, 98, 99, 100, 101, 1100037, 1100038, 1100039, 1100040, 1100041] S (sv_up (sv_up (sv_up (sv_up (sv_up (sv_up (sv_up (sv_up (sv_up (sv_up (sv_up (sv_up (sv_row (sv_up (sv_up (sv_row (sv_up (sv_up (sv_row (sv_up (sv_up (sv_row (sv_up (sv_up (sv_row (sv_up S 1100000 0 (1 : Int)) 92 (fun i' : Int => if i' < (2000 : Int) then (S 34 i') else (0 : Int))) 1061 0 (92 : Int)) 1100000 0 (2 : Int)) 93 (fun i' : Int => if i' < (2000 : Int) then (S 35 i') else (0 : Int))) 1062 0 (93 : Int)) 1100000 0 (3 : Int)) 94 (fun i' : Int => if i' < (2000 : Int) then (S 36 i') else (0 : Int))) 1063 0 (94 : Int)) 1100000 0 (4 : Int)) 95 (fun i' : Int => if i' < (2000 : Int) then (S 37 i') else (0 : Int))) 1064 0 (95 : Int)) 1100000 0 (5 : Int)) 96 (fun i' : Int => if i' < (2000 : Int) then (S 38 i') else (0 : Int))) 1065 0 (96 : Int)) 92 (S 1059 0) p1) 93 (S 1059 0) p2) 94 (S 1059 0) p3) 95 (S 1059 0) p4) 96 (S 1059 0) (S 1060 0)) 1060 0 (S 1059 0)) 1059 0 ((S 1059 0) + (1 : Int))) 1100037 (((S 1059 0) + (1 : Int)) - 1) (p1)) 1100038 (((S 1059 0) + (1 : Int)) - 1) (p2)) 1100039 (((S 1059 0) + (1 : Int)) - 1) (p3)) 1100040 (((S 1059 0) + (1 : Int)) - 1) (p4)) := sv_mod.up md101 (by decide)
    obtain ⟨o105, h⟩ := h
    refine sv_ghost sm_X 1100041 (((S 1059 0) + (1 : Int)) - 1) (((S 1060 0))) (by decide) ?_
    have ok106 : sm_ok (sv_up (sv_up (sv_up (sv_up (sv_up (sv_up (sv_up (sv_up (sv_up (sv_up (sv_up (sv_up (sv_up (sv_row (sv_up (sv_up (sv_row (sv_up (sv_up (sv_row (sv_up (sv_up (sv_row (sv_up (sv_up (sv_row (sv_up S 1100000 0 (1 : Int)) 92 (fun i' : Int => if i' < (2000 : Int) then (S 34 i') else (0 : Int))) 1061 0 (92 : Int)) 1100000 0 (2 : Int)) 93 (fun i' : Int => if i' < (2000 : Int) then (S 35 i') else (0 : Int))) 1062 0 (93 : Int)) 1100000 0 (3 : Int)) 94 (fun i' : Int => if i' < (2000 : Int) then (S 36 i') else (0 : Int))) 1063 0 (94 : Int)) 1100000 0 (4 : Int)) 95 (fun i' : Int => if i' < (2000 : Int) then (S 37 i') else (0 : Int))) 1064 0 (95 : Int)) 1100000 0 (5 : Int)) 96 (fun i' : Int => if i' < (2000 : Int) then (S 38 i') else (0 : Int))) 1065 0 (96 : Int)) 92 (S 1059 0) p1) 93 (S 1059 0) p2) 94 (S 1059 0) p3) 95 (S 1059 0) p4) 96 (S 1059 0) (S 1060 0)) 1060 0 (S 1059 0)) 1059 0 ((S 1059 0) + (1 : Int))) 1100037 (((S 1059 0) + (1 : Int)) - 1) (p1)) 1100038 (((S 1059 0) + (1 : Int)) - 1) (p2)) 1100039 (((S 1059 0) + (1 : Int)) - 1) (p3)) 1100040 (((S 1059 0) + (1 : Int)) - 1) (p4)) 1100041 (((S 1059 0) + (1 : Int)) - 1) (((S 1060 0)))) := sm_upI ok103 sm_r1100041 o105
    have md107 : sv_mod [1059, 1060, 1100000, 1061, 1062, 1063, 1064, 1065, 34, 35, 36, 37, 38, 92, 93, 94, 95, 96, 97, 98, 99, 100, 101, 1100037, 1100038, 1100039, 1100040, 1100041] S (sv_up (sv_up (sv_up (sv_up (sv_up (sv_up (sv_up (sv_up (sv_up (sv_up (sv_up (sv_up (sv_up (sv_row (sv_up (sv_up (sv_row (sv_up (sv_up (sv_row (sv_up (sv_up (sv_row (sv_up (sv_up (sv_row (sv_up S 1100000 0 (1 : Int)) 92 (fun i' : Int => if i' < (2000 : Int) then (S 34 i') else (0 : Int))) 1061 0 (92 : Int)) 1100000 0 (2 : Int)) 93 (fun i' : Int => if i' < (2000 : Int) then (S 35 i') else (0 : Int))) 1062 0 (93 : Int)) 1100000 0 (3 : Int)) 94 (fun i' : Int => if i' < (2000 : Int) then (S 36 i') else (0 : Int))) 1063 0 (94 : Int)) 1100000 0 (4 : Int)) 95 (fun i' : Int => if i' < (2000 : Int) then (S 37 i') else (0 : Int))) 1064 0 (95 : Int)) 1100000 0 (5 : Int)) 96 (fun i' : Int => if i' < (2000 : Int) then (S 38 i') else (0 : Int))) 1065 0 (96 : Int)) 92 (S 1059 0) p1) 93 (S 1059 0) p2) 94 (S 1059 0) p3) 95 (S 1059 0) p4) 96 (S 1059 0) (S 1060 0)) 1060 0 (S 1059 0)) 1059 0 ((S 1059 0) + (1 : Int))) 1100037 (((S 1059 0) + (1 : Int)) - 1) (p1)) 1100038 (((S 1059 0) + (1 : Int)) - 1) (p2)) 1100039 (((S 1059 0) + (1 : Int)) - 1) (p3)) 1100040 (((S 1059 0) + (1 : Int)) - 1) (p4)) 1100041 (((S 1059 0) + (1 : Int)) - 1) (((S 1060 0)))) := sv_mod.up md104 (by decide)
    have k108 : (((5 : Int) = 0 ∧ (92 : Int) = 34 ∧ (93 : Int) = 35 ∧ (94 : Int) = 36 ∧ (95 : Int) = 37 ∧ (96 : Int) = 38) → (0 ≤ ((S 1059 0) + (1 : Int)) ∧ ((S 1059 0) + (1 : Int)) ≤ 2000) → (∀ i : Int, 0 ≤ i → i < ((S 1059 0) + (1 : Int)) → (S 34 i) = (if i = (((S 1059 0) + (1 : Int)) - 1) then (p1) else (S 1100037 i)) ∧ (S 35 i) = (if i = (((S 1059 0) + (1 : Int)) - 1) then (p2) else (S 1100038 i)) ∧ (S 36 i) = (if i = (((S 1059 0) + (1 : Int)) - 1) then (p3) else (S 1100039 i)) ∧ (S 37 i) = (if i = (((S 1059 0) + (1 : Int)) - 1) then (p4) else (S 1100040 i)) ∧ (S 38 i) = (if i = (((S 1059 0) + (1 : Int)) - 1) then (((S 1060 0))) else (S 1100041 i))) → sm_DY (92 : Int) (93 : Int) (94 : Int) (95 : Int) (96 : Int) (5 : Int) ((S 1059 0) + (1 : Int)) (S 34) (S 35) (S 36) (S 37) (S 38) (fun i' : Int => if i' = (S 1059 0) then p1 else (fun i' : Int => if i' < (2000 : Int) then (S 34 i') else (0 : Int)) i') (fun i' : Int => if i' = (S 1059 0) then p2 else (fun i' : Int => if i' < (2000 : Int) then (S 35 i') else (0 : Int)) i') (fun i' : Int => if i' = (S 1059 0) then p3 else (fun i' : Int => if i' < (2000 : Int) then (S 36 i') else (0 : Int)) i') (fun i' : Int => if i' = (S 1059 0) then p4 else (fun i' : Int => if i' < (2000 : Int) then (S 37 i') else (0 : Int)) i') (fun i' : Int => if i' = (S 1059 0) then (S 1060 0) else (fun i' : Int => if i' < (2000 : Int) then (S 38 i') else (0 : Int)) i') (S 97) (S 98) (S 99) (S 100) (S 101) (fun i' : Int => if i' = (((S 1059 0) + (1 : Int)) - 1) then (p1) else (S 1100037) i') (fun i' : Int => if i' = (((S 1059 0) + (1 : Int)) - 1) then (p2) else (S 1100038) i') (fun i' : Int => if i' = (((S 1059 0) + (1 : Int)) - 1) then (p3) else (S 1100039) i') (fun i' : Int => if i' = (((S 1059 0) + (1 : Int)) - 1) then (p4) else (S 1100040) i') (fun i' : Int => if i' = (((S 1059 0) + (1 : Int)) - 1) then (((S 1060 0))) else (S 1100041) i')) := fun a b c => sm_DY_0 a b c
    have h := h k108
    have k109 : (((5 : Int) = 5 ∧ (92 : Int) = 92 ∧ (93 : Int) = 93 ∧ (94 : Int) = 94 ∧ (95 : Int) = 95 ∧ (96 : Int) = 96) → (0 ≤ ((S 1059 0) + (1 : Int)) ∧ ((S 1059 0) + (1 : Int)) ≤ 4000) → (∀ i : Int, 0 ≤ i → i < ((S 1059 0) + (1 : Int)) → (if i = (S 1059 0) then p1 else (if i < (2000 : Int) then (S 34 i) else (0 : Int))) = (if i = (((S 1059 0) + (1 : Int)) - 1) then (p1) else (S 1100037 i)) ∧ (if i = (S 1059 0) then p2 else (if i < (2000 : Int) then (S 35 i) else (0 : Int))) = (if i = (((S 1059 0) + (1 : Int)) - 1) then (p2) else (S 1100038 i)) ∧ (if i = (S 1059 0) then p3 else (if i < (2000 : Int) then (S 36 i) else (0 : Int))) = (if i = (((S 1059 0) + (1 : Int)) - 1) then (p3) else (S 1100039 i)) ∧ (if i = (S 1059 0) then p4 else (if i < (2000 : Int) then (S 37 i) else (0 : Int))) = (if i = (((S 1059 0) + (1 : Int)) - 1) then (p4) else (S 1100040 i)) ∧ (if i = (S 1059 0) then (S 1060 0) else (if i < (2000 : Int) then (S 38 i) else (0 : Int))) = (if i = (((S 1059 0) + (1 : Int)) - 1) then (((S 1060 0))) else (S 1100041 i))) → sm_DY (92 : Int) (93 : Int) (94 : Int) (95 : Int) (96 : Int) (5 : Int) ((S 1059 0) + (1 : Int)) (S 34) (S 35) (S 36) (S 37) (S 38) (fun i' : Int => if i' = (S 1059 0) then p1 else (fun i' : Int => if i' < (2000 : Int) then (S 34 i') else (0 : Int)) i') (fun i' : Int => if i' = (S 1059 0) then p2 else (fun i' : Int => if i' < (2000 : Int) then (S 35 i') else (0 : Int)) i') (fun i' : Int => if i' = (S 1059 0) then p3 else (fun i' : Int => if i' < (2000 : Int) then (S 36 i') else (0 : Int)) i') (fun i' : Int => if i' = (S 1059 0) then p4 else (fun i' : Int => if i' < (2000 : Int) then (S 37 i') else (0 : Int)) i') (fun i' : Int => if i' = (S 1059 0) then (S 1060 0) else (fun i' : Int => if i' < (2000 : Int) then (S 38 i') else (0 : Int)) i') (S 97) (S 98) (S 99) (S 100) (S 101) (fun i' : Int => if i' = (((S 1059 0) + (1 : Int)) - 1) then (p1) else (S 1100037) i') (fun i' : Int => if i' = (((S 1059 0) + (1 : Int)) - 1) then (p2) else (S 1100038) i') (fun i' : Int => if i' = (((S 1059 0) + (1 : Int)) - 1) then (p3) else (S 1100039) i') (fun i' : Int => if i' = (((S 1059 0) + (1 : Int)) - 1) then (p4) else (S 1100040) i') (fun i' : Int => if i' = (((S 1059 0) + (1 : Int)) - 1) then (((S 1060 0))) else (S 1100041) i')) := fun a b c => sm_DY_5 a b c
    have h := h k109
    exact sv_vret hM dX12_wrapIn_139 rfl ⟨rfl, ok106, md107, h⟩
def q_wrapIn5 (p1 : Int) (p2 : Int) (p3 : Int) (p4 : Int) (S : sv_S) : Option Value → sv_S → Prop := fun v S' => v = none ∧ sm_ok S' ∧ sv_mod [1059, 1060, 1100000, 1061, 1062, 1063, 1064, 1065, 34, 35, 36, 37, 38, 92, 93, 94, 95, 96, 97, 98, 99, 100, 101, 1100037, 1100038, 1100039, 1100040, 1100041] S S' ∧ ((S' 1059 0) = (S 1059 0) + 1 ∧ (S' 1060 0) = (S 1059 0) ∧ sm_DY (S' 1061 0) (S' 1062 0) (S' 1063 0) (S' 1064 0) (S' 1065 0) (S' 1100000 0) (S' 1059 0) (S' 34) (S' 35) (S' 36) (S' 37) (S' 38) (S' 92) (S' 93) (S' 94) (S' 95) (S' 96) (S' 97) (S' 98) (S' 99) (S' 100) (S' 101) (S' 1100037) (S' 1100038) (S' 1100039) (S' 1100040) (S' 1100041) ∧ sm_F1 (S 1100037) (S' 1100037) (S 1059 0) ∧ sm_F1 (S 1100038) (S' 1100038) (S 1059 0) ∧ sm_F1 (S 1100039) (S' 1100039) (S 1059 0) ∧ sm_F1 (S 1100040) (S' 1100040) (S 1059 0) ∧ sm_F1 (S 1100041) (S' 1100041) (S 1059 0) ∧ (S' 1100037 ((S' 1059 0) - 1)) = p1 ∧ (S' 1100038 ((S' 1059 0) - 1)) = p2 ∧ (S' 1100039 ((S' 1059 0) - 1)) = p3 ∧ (S' 1100040 ((S' 1059 0) - 1)) = p4 ∧ (S' 1100041 ((S' 1059 0) - 1)) = (S 1060 0))
theorem la_wrapIn5_0 {x0 : Int} (h0 : x0 ≤ 4000) (h1 : ¬ x0 = 4000) : x0 < 4000 := by omega
theorem la_wrapIn5_1 {x0 : Int} (h0 : 0 ≤ x0) (h1 : x0 < 4000) : 0 ≤ x0 ∧ x0 < 4000 := by omega
theorem la_wrapIn5_2 {x0 : Int} (h0 : 0 ≤ x0) (h1 : x0 < 4000) : sv_R (x0 + 1) := by omega
theorem la_wrapIn5_3 {x0 x1 x2 x3 x4 x5 : Int} (h0 : x0 = 5) (h1 : x1 = 92) (h2 : x2 = 93) (h3 : x3 = 94) (h4 : x4 = 95) (h5 : x5 = 96) : x0 = 5 ∧ x1 = 92 ∧ x2 = 93 ∧ x3 = 94 ∧ x4 = 95 ∧ x5 = 96 := by omega
theorem la_wrapIn5_4 {x0 : Int} (h0 : 0 ≤ x0) (h1 : x0 < 4000) : 0 ≤ x0 + 1 ∧ x0 + 1 ≤ 4000 := by omega
theorem la_wrapIn5_5 {x0 x1 : Int} (h0 : x0 < x1 + 1) (h1 : x0 = x1) : x0 = x1 + 1 - 1 := by omega
theorem la_wrapIn5_6 {x0 x1 : Int} (h0 : x0 = x1) : ¬ x0 < x1 := by omega
theorem la_wrapIn5_7 {x0 x1 x2 : Int} (h0 : x0 = x1) (h1 : x2 = x1) : x0 = x2 := by omega
theorem la_wrapIn5_8 {x0 x1 : Int} (h0 : x0 < x1 + 1) : x0 ≤ x1 := by omega
theorem la_wrapIn5_9 {x0 x1 : Int} (h0 : x0 ≤ x1) (h1 : ¬ x0 = x1) : x0 < x1 := by omega
theorem la_wrapIn5_10 {x0 x1 : Int} (h0 : x0 < x1) : ¬ x0 = x1 + 1 - 1 := by omega
theorem la_wrapIn5_11 {x0 x1 x2 x3 : Int} (h0 : x0 = x1) (h1 : x2 = x3) (h2 : x1 = x3) : x0 = x2 := by omega
theorem la_wrapIn5_12 {x0 x1 x2 : Int} (h0 : x0 = x1) (h1 : x2 = x1) : x2 = x0 := by omega
theorem la_wrapIn5_13 {x0 x1 x2 x3 x4 x5 : Int} (h0 : x0 = 95) : ¬ (x1 = 10 ∧ x2 = 97 ∧ x3 = 98 ∧ x4 = 99 ∧ x0 = 100 ∧ x5 = 101) := by omega
theorem la_wrapIn5_14 {x0 : Int} : x0 + 1 = x0 + 1 := by omega
theorem la_wrapIn5_15 {x0 : Int} : x0 = x0 := by omega
theorem la_wrapIn5_16 {x0 : Int} : x0 ≤ x0 + 1 - 1 := by omega
theorem la_wrapIn5_17 {x0 : Int} (h0 : 0 ≤ x0) : 0 ≤ x0 + 1 - 1 := by omega
theorem la_wrapIn5_18 {x0 : Int} : x0 + 1 - 1 = x0 + 1 - 1 := by omega
theorem la_wrapIn5_19 {x0 : Int} : ¬ x0 + 1 - 1 < x0 := by omega
theorem la_wrapIn5_20 {x0 : Int} (h0 : x0 ≤ 4000) (h1 : ¬ ¬ x0 = 4000) : 0 ≤ x0 ∧ x0 < 8000 := by omega
theorem la_wrapIn5_21 {x0 : Int} (h0 : x0 ≤ 4000) (h1 : ¬ ¬ x0 = 4000) : sv_R (x0 + 1) := by omega
theorem la_wrapIn5_22 : ¬ ((10 : Int) = 5 ∧ (97 : Int) = 92 ∧ (98 : Int) = 93 ∧ (99 : Int) = 94 ∧ (100 : Int) = 95 ∧ (101 : Int) = 96) := by omega
theorem la_wrapIn5_23 : (10 : Int) = 10 ∧ (97 : Int) = 97 ∧ (98 : Int) = 98 ∧ (99 : Int) = 99 ∧ (100 : Int) = 100 ∧ (101 : Int) = 101 := by omega
theorem la_wrapIn5_24 {x0 : Int} (h0 : x0 ≤ 4000) (h1 : ¬ ¬ x0 = 4000) : 0 ≤ x0 + 1 ∧ x0 + 1 ≤ 8000 := by omega
theorem la_wrapIn5_25 {x0 x1 : Int} (h0 : ¬ ¬ x0 = 4000) (h1 : x1 = x0) : ¬ x1 < 4000 := by omega
theorem la_wrapIn5_26 {x0 x1 : Int} (h0 : x0 ≤ 4000) (h1 : x1 < x0) : x1 < 4000 := by omega
theorem la_wrapIn5_27 {x0 x1 x2 x3 x4 : Int} (h0 : x0 = x1) (h1 : x1 = x2) (h2 : x3 = x4) (h3 : x2 = x4) : x0 = x3 := by omega
theorem la_wrapIn5_28 {x0 : Int} (h0 : ¬ ¬ x0 = 4000) : 0 ≤ x0 + 1 - 1 := by omega
set_option maxHeartbeats 8000000 in
theorem f_wrapIn5 : ∀ (p1 : Int) (p2 : Int) (p3 : Int) (p4 : Int) (S : sv_S), sm_ok S → sv_R p1 → sv_R p2 → sv_R p3 → sv_R p4 → ((S 1100000 0) = 5 ∧ (S 1061 0) = 92 ∧ (S 1062 0) = 93 ∧ (S 1063 0) = 94 ∧ (S 1064 0) = 95 ∧ (S 1065 0) = 96 ∧ 0 ≤ (S 1059 0) ∧ (S 1059 0) ≤ 4000 ∧ (S 1059 0) < 8000 ∧ -1 ≤ (S 1060 0) ∧ (S 1060 0) < (S 1059 0) ∧ (∀ i : Int, 0 ≤ i → i < (S 1059 0) → (S 92 i) = (S 1100037 i) ∧ (S 93 i) = (S 1100038 i) ∧ (S 94 i) = (S 1100039 i) ∧ (S 95 i) = (S 1100040 i) ∧ (S 96 i) = (S 1100041 i))) → (sv_R (S 1059 0) → ((S 1061 0) = (92 : Int)) ∧ ((S 1100000 0) = (5 : Int)) ∧ (((¬ (S 1059 0) = (4000 : Int)) → (0 ≤ (S 1059 0) ∧ (S 1059 0) < 4000) ∧ ((S 1062 0) = (93 : Int)) ∧ ((S 1063 0) = (94 : Int)) ∧ ((S 1064 0) = (95 : Int)) ∧ ((S 1065 0) = (96 : Int)) ∧ (sv_R (S 1060 0) → (sv_R ((S 1059 0) + (1 : Int))) ∧ (sv_R (p1)) ∧ (sv_R (p2)) ∧ (sv_R (p3)) ∧ (sv_R (p4)) ∧ (sv_R (((S 1060 0)))) ∧ ((((S 1100000 0) = 5 ∧ (S 1061 0) = 92 ∧ (S 1062 0) = 93 ∧ (S 1063 0) = 94 ∧ (S 1064 0) = 95 ∧ (S 1065 0) = 96) → (0 ≤ ((S 1059 0) + (1 : Int)) ∧ ((S 1059 0) + (1 : Int)) ≤ 4000) → (∀ i : Int, 0 ≤ i → i < ((S 1059 0) + (1 : Int)) → (if i = (S 1059 0) then p1 else (S 92 i)) = (if i = (((S 1059 0) + (1 : Int)) - 1) then (p1) else (S 1100037 i)) ∧ (if i = (S 1059 0) then p2 else (S 93 i)) = (if i = (((S 1059 0) + (1 : Int)) - 1) then (p2) else (S 1100038 i)) ∧ (if i = (S 1059 0) then p3 else (S 94 i)) = (if i = (((S 1059 0) + (1 : Int)) - 1) then (p3) else (S 1100039 i)) ∧ (if i = (S 1059 0) then p4 else (S 95 i)) = (if i = (((S 1059 0) + (1 : Int)) - 1) then (p4) else (S 1100040 i)) ∧ (if i = (S 1059 0) then (S 1060 0) else (S 96 i)) = (if i = (((S 1059 0) + (1 : Int)) - 1) then (((S 1060 0))) else (S 1100041 i))) → sm_DY (S 1061 0) (S 1062 0) (S 1063 0) (S 1064 0) (S 1065 0) (S 1100000 0) ((S 1059 0) + (1 : Int)) (S 34) (S 35) (S 36) (S 37) (S 38) (fun i' : Int => if i' = (S 1059 0) then p1 else (S 92) i') (fun i' : Int => if i' = (S 1059 0) then p2 else (S 93) i') (fun i' : Int => if i' = (S 1059 0) then p3 else (S 94) i') (fun i' : Int => if i' = (S 1059 0) then p4 else (S 95) i') (fun i' : Int => if i' = (S 1059 0) then (S 1060 0) else (S 96) i') (S 97) (S 98) (S 99) (S 100) (S 101) (fun i' : Int => if i' = (((S 1059 0) + (1 : Int)) - 1) then (p1) else (S 1100037) i') (fun i' : Int => if i' = (((S 1059 0) + (1 : Int)) - 1) then (p2) else (S 1100038) i') (fun i' : Int => if i' = (((S 1059 0) + (1 : Int)) - 1) then (p3) else (S 1100039) i') (fun i' : Int => if i' = (((S 1059 0) + (1 : Int)) - 1) then (p4) else (S 1100040) i') (fun i' : Int => if i' = (((S 1059 0) + (1 : Int)) - 1) then (((S 1060 0))) else (S 1100041) i')) → ((((S 1100000 0) = 10 ∧ (S 1061 0) = 97 ∧ (S 1062 0) = 98 ∧ (S 1063 0) = 99 ∧ (S 1064 0) = 100 ∧ (S 1065 0) = 101) → (0 ≤ ((S 1059 0) + (1 : Int)) ∧ ((S 1059 0) + (1 : Int)) ≤ 8000) → (∀ i : Int, 0 ≤ i → i < ((S 1059 0) + (1 : Int)) → (S 97 i) = (if i = (((S 1059 0) + (1 : Int)) - 1) then (p1) else (S 1100037 i)) ∧ (S 98 i) = (if i = (((S 1059 0) + (1 : Int)) - 1) then (p2) else (S 1100038 i)) ∧ (S 99 i) = (if i = (((S 1059 0) + (1 : Int)) - 1) then (p3) else (S 1100039 i)) ∧ (S 100 i) = (if i = (((S 1059 0) + (1 : Int)) - 1) then (p4) else (S 1100040 i)) ∧ (S 101 i) = (if i = (((S 1059 0) + (1 : Int)) - 1) then (((S 1060 0))) else (S 1100041 i))) → sm_DY (S 1061 0) (S 1062 0) (S 1063 0) (S 1064 0) (S 1065 0) (S 1100000 0) ((S 1059 0) + (1 : Int)) (S 34) (S 35) (S 36) (S 37) (S 38) (fun i' : Int => if i' = (S 1059 0) then p1 else (S 92) i') (fun i' : Int => if i' = (S 1059 0) then p2 else (S 93) i') (fun i' : Int => if i' = (S 1059 0) then p3 else (S 94) i') (fun i' : Int => if i' = (S 1059 0) then p4 else (S 95) i') (fun i' : Int => if i' = (S 1059 0) then (S 1060 0) else (S 96) i') (S 97) (S 98) (S 99) (S 100) (S 101) (fun i' : Int => if i' = (((S 1059 0) + (1 : Int)) - 1) then (p1) else (S 1100037) i') (fun i' : Int => if i' = (((S 1059 0) + (1 : Int)) - 1) then (p2) else (S 1100038) i') (fun i' : Int => if i' = (((S 1059 0) + (1 : Int)) - 1) then (p3) else (S 1100039) i') (fun i' : Int => if i' = (((S 1059 0) + (1 : Int)) - 1) then (p4) else (S 1100040) i') (fun i' : Int => if i' = (((S 1059 0) + (1 : Int)) - 1) then (((S 1060 0))) else (S 1100041) i')) → (((S 1059 0) + (1 : Int)) = (S 1059 0) + 1 ∧ (S 1059 0) = (S 1059 0) ∧ sm_DY (S 1061 0) (S 1062 0) (S 1063 0) (S 1064 0) (S 1065 0) (S 1100000 0) ((S 1059 0) + (1 : Int)) (S 34) (S 35) (S 36) (S 37) (S 38) (fun i' : Int => if i' = (S 1059 0) then p1 else (S 92) i') (fun i' : Int => if i' = (S 1059 0) then p2 else (S 93) i') (fun i' : Int => if i' = (S 1059 0) then p3 else (S 94) i') (fun i' : Int => if i' = (S 1059 0) then p4 else (S 95) i') (fun i' : Int => if i' = (S 1059 0) then (S 1060 0) else (S 96) i') (S 97) (S 98) (S 99) (S 100) (S 101) (fun i' : Int => if i' = (((S 1059 0) + (1 : Int)) - 1) then (p1) else (S 1100037) i') (fun i' : Int => if i' = (((S 1059 0) + (1 : Int)) - 1) then (p2) else (S 1100038) i') (fun i' : Int => if i' = (((S 1059 0) + (1 : Int)) - 1) then (p3) else (S 1100039) i') (fun i' : Int => if i' = (((S 1059 0) + (1 : Int)) - 1) then (p4) else (S 1100040) i') (fun i' : Int => if i' = (((S 1059 0) + (1 : Int)) - 1) then (((S 1060 0))) else (S 1100041) i') ∧ sm_F1 (S 1100037) (fun i' : Int => if i' = (((S 1059 0) + (1 : Int)) - 1) then (p1) else (S 1100037) i') (S 1059 0) ∧ sm_F1 (S 1100038) (fun i' : Int => if i' = (((S 1059 0) + (1 : Int)) - 1) then (p2) else (S 1100038) i') (S 1059 0) ∧ sm_F1 (S 1100039) (fun i' : Int => if i' = (((S 1059 0) + (1 : Int)) - 1) then (p3) else (S 1100039) i') (S 1059 0) ∧ sm_F1 (S 1100040) (fun i' : Int => if i' = (((S 1059 0) + (1 : Int)) - 1) then (p4) else (S 1100040) i') (S 1059 0) ∧ sm_F1 (S 1100041) (fun i' : Int => if i' = (((S 1059 0) + (1 : Int)) - 1) then (((S 1060 0))) else (S 1100041) i') (S 1059 0) ∧ (if (((S 1059 0) + (1 : Int)) - 1) = (((S 1059 0) + (1 : Int)) - 1) then (p1) else (S 1100037 (((S 1059 0) + (1 : Int)) - 1))) = p1 ∧ (if (((S 1059 0) + (1 : Int)) - 1) = (((S 1059 0) + (1 : Int)) - 1) then (p2) else (S 1100038 (((S 1059 0) + (1 : Int)) - 1))) = p2 ∧ (if (((S 1059 0) + (1 : Int)) - 1) = (((S 1059 0) + (1 : Int)) - 1) then (p3) else (S 1100039 (((S 1059 0) + (1 : Int)) - 1))) = p3 ∧ (if (((S 1059 0) + (1 : Int)) - 1) = (((S 1059 0) + (1 : Int)) - 1) then (p4) else (S 1100040 (((S 1059 0) + (1 : Int)) - 1))) = p4 ∧ (if (((S 1059 0) + (1 : Int)) - 1) = (((S 1059 0) + (1 : Int)) - 1) then (((S 1060 0))) else (S 1100041 (((S 1059 0) + (1 : Int)) - 1))) = (S 1060 0)))))) ∧ ((¬ (¬ (S 1059 0) = (4000 : Int))) → ((S 1062 0) = (93 : Int)) ∧ ((S 1063 0) = (94 : Int)) ∧ ((S 1064 0) = (95 : Int)) ∧ ((S 1065 0) = (96 : Int)) ∧ (0 ≤ (S 1059 0) ∧ (S 1059 0) < 8000) ∧ (sv_R (S 1060 0) → (sv_R ((S 1059 0) + (1 : Int))) ∧ (sv_R (p1)) ∧ (sv_R (p2)) ∧ (sv_R (p3)) ∧ (sv_R (p4)) ∧ (sv_R (((S 1060 0)))) ∧ ((((10 : Int) = 5 ∧ (97 : Int) = 92 ∧ (98 : Int) = 93 ∧ (99 : Int) = 94 ∧ (100 : Int) = 95 ∧ (101 : Int) = 96) → (0 ≤ ((S 1059 0) + (1 : Int)) ∧ ((S 1059 0) + (1 : Int)) ≤ 4000) → (∀ i : Int, 0 ≤ i → i < ((S 1059 0) + (1 : Int)) → (S 92 i) = (if i = (((S 1059 0) + (1 : Int)) - 1) then (p1) else (S 1100037 i)) ∧ (S 93 i) = (if i = (((S 1059 0) + (1 : Int)) - 1) then (p2) else (S 1100038 i)) ∧ (S 94 i) = (if i = (((S 1059 0) + (1 : Int)) - 1) then (p3) else (S 1100039 i)) ∧ (S 95 i) = (if i = (((S 1059 0) + (1 : Int)) - 1) then (p4) else (S 1100040 i)) ∧ (S 96 i) = (if i = (((S 1059 0) + (1 : Int)) - 1) then (((S 1060 0))) else (S 1100041 i))) → sm_DY (97 : Int) (98 : Int) (99 : Int) (100 : Int) (101 : Int) (10 : Int) ((S 1059 0) + (1 : Int)) (S 34) (S 35) (S 36) (S 37) (S 38) (S 92) (S 93) (S 94) (S 95) (S 96) (fun i' : Int => if i' = (S 1059 0) then p1 else (fun i' : Int => if i' < (4000 : Int) then (S 92 i') else (0 : Int)) i') (fun i' : Int => if i' = (S 1059 0) then p2 else (fun i' : Int => if i' < (4000 : Int) then (S 93 i') else (0 : Int)) i') (fun i' : Int => if i' = (S 1059 0) then p3 else (fun i' : Int => if i' < (4000 : Int) then (S 94 i') else (0 : Int)) i') (fun i' : Int => if i' = (S 1059 0) then p4 else (fun i' : Int => if i' < (4000 : Int) then (S 95 i') else (0 : Int)) i') (fun i' : Int => if i' = (S 1059 0) then (S 1060 0) else (fun i' : Int => if i' < (4000 : Int) then (S 96 i') else (0 : Int)) i') (fun i' : Int => if i' = (((S 1059 0) + (1 : Int)) - 1) then (p1) else (S 1100037) i') (fun i' : Int => if i' = (((S 1059 0) + (1 : Int)) - 1) then (p2) else (S 1100038) i') (fun i' : Int => if i' = (((S 1059 0) + (1 : Int)) - 1) then (p3) else (S 1100039) i') (fun i' : Int => if i' = (((S 1059 0) + (1 : Int)) - 1) then (p4) else (S 1100040) i') (fun i' : Int => if i' = (((S 1059 0) + (1 : Int)) - 1) then (((S 1060 0))) else (S 1100041) i')) → ((((10 : Int) = 10 ∧ (97 : Int) = 97 ∧ (98 : Int) = 98 ∧ (99 : Int) = 99 ∧ (100 : Int) = 100 ∧ (101 : Int) = 101) → (0 ≤ ((S 1059 0) + (1 : Int)) ∧ ((S 1059 0) + (1 : Int)) ≤ 8000) → (∀ i : Int, 0 ≤ i → i < ((S 1059 0) + (1 : Int)) → (if i = (S 1059 0) then p1 else (if i < (4000 : Int) then (S 92 i) else (0 : Int))) = (if i = (((S 1059 0) + (1 : Int)) - 1) then (p1) else (S 1100037 i)) ∧ (if i = (S 1059 0) then p2 else (if i < (4000 : Int) then (S 93 i) else (0 : Int))) = (if i = (((S 1059 0) + (1 : Int)) - 1) then (p2) else (S 1100038 i)) ∧ (if i = (S 1059 0) then p3 else (if i < (4000 : Int) then (S 94 i) else (0 : Int))) = (if i = (((S 1059 0) + (1 : Int)) - 1) then (p3) else (S 1100039 i)) ∧ (if i = (S 1059 0) then p4 else (if i < (4000 : Int) then (S 95 i) else (0 : Int))) = (if i = (((S 1059 0) + (1 : Int)) - 1) then (p4) else (S 1100040 i)) ∧ (if i = (S 1059 0) then (S 1060 0) else (if i < (4000 : Int) then (S 96 i) else (0 : Int))) = (if i = (((S 1059 0) + (1 : Int)) - 1) then (((S 1060 0))) else (S 1100041 i))) → sm_DY (97 : Int) (98 : Int) (99 : Int) (100 : Int) (101 : Int) (10 : Int) ((S 1059 0) + (1 : Int)) (S 34) (S 35) (S 36) (S 37) (S 38) (S 92) (S 93) (S 94) (S 95) (S 96) (fun i' : Int => if i' = (S 1059 0) then p1 else (fun i' : Int => if i' < (4000 : Int) then (S 92 i') else (0 : Int)) i') (fun i' : Int => if i' = (S 1059 0) then p2 else (fun i' : Int => if i' < (4000 : Int) then (S 93 i') else (0 : Int)) i') (fun i' : Int => if i' = (S 1059 0) then p3 else (fun i' : Int => if i' < (4000 : Int) then (S 94 i') else (0 : Int)) i') (fun i' : Int => if i' = (S 1059 0) then p4 else (fun i' : Int => if i' < (4000 : Int) then (S 95 i') else (0 : Int)) i') (fun i' : Int => if i' = (S 1059 0) then (S 1060 0) else (fun i' : Int => if i' < (4000 : Int) then (S 96 i') else (0 : Int)) i') (fun i' : Int => if i' = (((S 1059 0) + (1 : Int)) - 1) then (p1) else (S 1100037) i') (fun i' : Int => if i' = (((S 1059 0) + (1 : Int)) - 1) then (p2) else (S 1100038) i') (fun i' : Int => if i' = (((S 1059 0) + (1 : Int)) - 1) then (p3) else (S 1100039) i') (fun i' : Int => if i' = (((S 1059 0) + (1 : Int)) - 1) then (p4) else (S 1100040) i') (fun i' : Int => if i' = (((S 1059 0) + (1 : Int)) - 1) then (((S 1060 0))) else (S 1100041) i')) → (((S 1059 0) + (1 : Int)) = (S 1059 0) + 1 ∧ (S 1059 0) = (S 1059 0) ∧ sm_DY (97 : Int) (98 : Int) (99 : Int) (100 : Int) (101 : Int) (10 : Int) ((S 1059 0) + (1 : Int)) (S 34) (S 35) (S 36) (S 37) (S 38) (S 92) (S 93) (S 94) (S 95) (S 96) (fun i' : Int => if i' = (S 1059 0) then p1 else (fun i' : Int => if i' < (4000 : Int) then (S 92 i') else (0 : Int)) i') (fun i' : Int => if i' = (S 1059 0) then p2 else (fun i' : Int => if i' < (4000 : Int) then (S 93 i') else (0 : Int)) i') (fun i' : Int => if i' = (S 1059 0) then p3 else (fun i' : Int => if i' < (4000 : Int) then (S 94 i') else (0 : Int)) i') (fun i' : Int => if i' = (S 1059 0) then p4 else (fun i' : Int => if i' < (4000 : Int) then (S 95 i') else (0 : Int)) i') (fun i' : Int => if i' = (S 1059 0) then (S 1060 0) else (fun i' : Int => if i' < (4000 : Int) then (S 96 i') else (0 : Int)) i') (fun i' : Int => if i' = (((S 1059 0) + (1 : Int)) - 1) then (p1) else (S 1100037) i') (fun i' : Int => if i' = (((S 1059 0) + (1 : Int)) - 1) then (p2) else (S 1100038) i') (fun i' : Int => if i' = (((S 1059 0) + (1 : Int)) - 1) then (p3) else (S 1100039) i') (fun i' : Int => if i' = (((S 1059 0) + (1 : Int)) - 1) then (p4) else (S 1100040) i') (fun i' : Int => if i' = (((S 1059 0) + (1 : Int)) - 1) then (((S 1060 0))) else (S 1100041) i') ∧ sm_F1 (S 1100037) (fun i' : Int => if i' = (((S 1059 0) + (1 : Int)) - 1) then (p1) else (S 1100037) i') (S 1059 0) ∧ sm_F1 (S 1100038) (fun i' : Int => if i' = (((S 1059 0) + (1 : Int)) - 1) then (p2) else (S 1100038) i') (S 1059 0) ∧ sm_F1 (S 1100039) (fun i' : Int => if i' = (((S 1059 0) + (1 : Int)) - 1) then (p3) else (S 1100039) i') (S 1059 0) ∧ sm_F1 (S 1100040) (fun i' : Int => if i' = (((S 1059 0) + (1 : Int)) - 1) then (p4) else (S 1100040) i') (S 1059 0) ∧ sm_F1 (S 1100041) (fun i' : Int => if i' = (((S 1059 0) + (1 : Int)) - 1) then (((S 1060 0))) else (S 1100041) i') (S 1059 0) ∧ (if (((S 1059 0) + (1 : Int)) - 1) = (((S 1059 0) + (1 : Int)) - 1) then (p1) else (S 1100037 (((S 1059 0) + (1 : Int)) - 1))) = p1 ∧ (if (((S 1059 0) + (1 : Int)) - 1) = (((S 1059 0) + (1 : Int)) - 1) then (p2) else (S 1100038 (((S 1059 0) + (1 : Int)) - 1))) = p2 ∧ (if (((S 1059 0) + (1 : Int)) - 1) = (((S 1059 0) + (1 : Int)) - 1) then (p3) else (S 1100039 (((S 1059 0) + (1 : Int)) - 1))) = p3 ∧ (if (((S 1059 0) + (1 : Int)) - 1) = (((S 1059 0) + (1 : Int)) - 1) then (p4) else (S 1100040 (((S 1059 0) + (1 : Int)) - 1))) = p4 ∧ (if (((S 1059 0) + (1 : Int)) - 1) = (((S 1059 0) + (1 : Int)) - 1) then (((S 1060 0))) else (S 1100041 (((S 1059 0) + (1 : Int)) - 1))) = (S 1060 0)))))))) := by
  intro p1
  intro p2
  intro p3
  intro p4
  intro S
  intro h1_
  intro h2_
  intro h3_
  intro h4_
  intro h5_
  rintro ⟨h6_, ⟨h7_, ⟨h8_, ⟨h9_, ⟨h10_, ⟨h11_, ⟨h12_, ⟨h13_, ⟨h14_, ⟨h15_, ⟨h16_, h17_⟩⟩⟩⟩⟩⟩⟩⟩⟩⟩⟩
  intro h18_
  refine ⟨h7_, ?_⟩
  refine ⟨h6_, ?_⟩
  refine ⟨?_, ?_⟩
  · skip
    intro h19_
    refine ⟨(la_wrapIn5_1 h12_ (la_wrapIn5_0 h13_ h19_)), ?_⟩
    refine ⟨h8_, ?_⟩
    refine ⟨h9_, ?_⟩
    refine ⟨h10_, ?_⟩
    refine ⟨h11_, ?_⟩
    intro h20_
    refine ⟨(la_wrapIn5_2 h12_ (la_wrapIn5_0 h13_ h19_)), ?_⟩
    refine ⟨h2_, ?_⟩
    refine ⟨h3_, ?_⟩
    refine ⟨h4_, ?_⟩
    refine ⟨h5_, ?_⟩
    refine ⟨h20_, ?_⟩
    intro h21_
    have h22_ := (h21_ (la_wrapIn5_3 h6_ h7_ h8_ h9_ h10_ h11_))
    have h23_ := (h22_ (la_wrapIn5_4 h12_ (la_wrapIn5_0 h13_ h19_)))
    have h81_ : (∀ i : Int, 0 ≤ i → i < S 1059 0 + 1 → (if i = S 1059 0 then p1 else S 92 i) = (if i = S 1059 0 + 1 - 1 then p1 else S 1100037 i) ∧ (if i = S 1059 0 then p2 else S 93 i) = (if i = S 1059 0 + 1 - 1 then p2 else S 1100038 i) ∧ (if i = S 1059 0 then p3 else S 94 i) = (if i = S 1059 0 + 1 - 1 then p3 else S 1100039 i) ∧ (if i = S 1059 0 then p4 else S 95 i) = (if i = S 1059 0 + 1 - 1 then p4 else S 1100040 i) ∧ (if i = S 1059 0 then S 1060 0 else S 96 i) = (if i = S 1059 0 + 1 - 1 then S 1060 0 else S 1100041 i)) := by
      intro i
      intro h24_
      intro h25_
      refine ⟨?_, ?_⟩
      · skip
        have h26_ := ((h17_ i) h24_)
        by_cases c27_ : i = S 1059 0
        · skip
          have e28_ : (if i = S 1059 0 then p1 else S 92 i : Int) = p1 := if_pos c27_
          have e29_ : (if i = S 1059 0 + 1 - 1 then p1 else S 1100037 i : Int) = p1 := if_pos (la_wrapIn5_5 h25_ c27_)
          exact (la_wrapIn5_7 e28_ e29_)
        · skip
          have e30_ : (if i = S 1059 0 then p1 else S 92 i : Int) = S 92 i := if_neg c27_
          have e31_ : (if i = S 1059 0 + 1 - 1 then p1 else S 1100037 i : Int) = S 1100037 i := if_neg (la_wrapIn5_10 (la_wrapIn5_9 (la_wrapIn5_8 h25_) c27_))
          obtain ⟨h32_, ⟨h33_, ⟨h34_, ⟨h35_, h36_⟩⟩⟩⟩ := (h26_ (la_wrapIn5_9 (la_wrapIn5_8 h25_) c27_))
          exact (la_wrapIn5_11 e30_ e31_ h32_)
      refine ⟨?_, ?_⟩
      · skip
        have h37_ := ((h17_ i) h24_)
        by_cases c38_ : i = S 1059 0
        · skip
          have e39_ : (if i = S 1059 0 then p2 else S 93 i : Int) = p2 := if_pos c38_
          have e40_ : (if i = S 1059 0 + 1 - 1 then p2 else S 1100038 i : Int) = p2 := if_pos (la_wrapIn5_5 h25_ c38_)
          exact (la_wrapIn5_7 e39_ e40_)
        · skip
          have e41_ : (if i = S 1059 0 then p2 else S 93 i : Int) = S 93 i := if_neg c38_
          have e42_ : (if i = S 1059 0 + 1 - 1 then p2 else S 1100038 i : Int) = S 1100038 i := if_neg (la_wrapIn5_10 (la_wrapIn5_9 (la_wrapIn5_8 h25_) c38_))
          obtain ⟨h43_, ⟨h44_, ⟨h45_, ⟨h46_, h47_⟩⟩⟩⟩ := (h37_ (la_wrapIn5_9 (la_wrapIn5_8 h25_) c38_))
          exact (la_wrapIn5_11 e41_ e42_ h44_)
      refine ⟨?_, ?_⟩
      · skip
        have h48_ := ((h17_ i) h24_)
        by_cases c49_ : i = S 1059 0
        · skip
          have e50_ : (if i = S 1059 0 then p3 else S 94 i : Int) = p3 := if_pos c49_
          have e51_ : (if i = S 1059 0 + 1 - 1 then p3 else S 1100039 i : Int) = p3 := if_pos (la_wrapIn5_5 h25_ c49_)
          exact (la_wrapIn5_7 e50_ e51_)
        · skip
          have e52_ : (if i = S 1059 0 then p3 else S 94 i : Int) = S 94 i := if_neg c49_
          have e53_ : (if i = S 1059 0 + 1 - 1 then p3 else S 1100039 i : Int) = S 1100039 i := if_neg (la_wrapIn5_10 (la_wrapIn5_9 (la_wrapIn5_8 h25_) c49_))
          obtain ⟨h54_, ⟨h55_, ⟨h56_, ⟨h57_, h58_⟩⟩⟩⟩ := (h48_ (la_wrapIn5_9 (la_wrapIn5_8 h25_) c49_))
          exact (la_wrapIn5_11 e52_ e53_ h56_)
      refine ⟨?_, ?_⟩
      · skip
        have h59_ := ((h17_ i) h24_)
        by_cases c60_ : i = S 1059 0
        · skip
          have e61_ : (if i = S 1059 0 + 1 - 1 then p4 else S 1100040 i : Int) = p4 := if_pos (la_wrapIn5_5 h25_ c60_)
          have e62_ : (if i = S 1059 0 then p4 else S 95 i : Int) = p4 := if_pos c60_
          exact (la_wrapIn5_12 e61_ e62_)
        · skip
          have e63_ : (if i = S 1059 0 then p4 else S 95 i : Int) = S 95 i := if_neg c60_
          have e64_ : (if i = S 1059 0 + 1 - 1 then p4 else S 1100040 i : Int) = S 1100040 i := if_neg (la_wrapIn5_10 (la_wrapIn5_9 (la_wrapIn5_8 h25_) c60_))
          obtain ⟨h65_, ⟨h66_, ⟨h67_, ⟨h68_, h69_⟩⟩⟩⟩ := (h59_ (la_wrapIn5_9 (la_wrapIn5_8 h25_) c60_))
          exact (la_wrapIn5_11 e63_ e64_ h68_)
      have h70_ := ((h17_ i) h24_)
      by_cases c71_ : i = S 1059 0
      · skip
        have e72_ : (if i = S 1059 0 then S 1060 0 else S 96 i : Int) = S 1060 0 := if_pos c71_
        have e73_ : (if i = S 1059 0 + 1 - 1 then S 1060 0 else S 1100041 i : Int) = S 1060 0 := if_pos (la_wrapIn5_5 h25_ c71_)
        exact (la_wrapIn5_7 e72_ e73_)
      · skip
        have e74_ : (if i = S 1059 0 then S 1060 0 else S 96 i : Int) = S 96 i := if_neg c71_
        have e75_ : (if i = S 1059 0 + 1 - 1 then S 1060 0 else S 1100041 i : Int) = S 1100041 i := if_neg (la_wrapIn5_10 (la_wrapIn5_9 (la_wrapIn5_8 h25_) c71_))
        obtain ⟨h76_, ⟨h77_, ⟨h78_, ⟨h79_, h80_⟩⟩⟩⟩ := (h70_ (la_wrapIn5_9 (la_wrapIn5_8 h25_) c71_))
        exact (la_wrapIn5_11 e74_ e75_ h80_)
    have h82_ := (h23_ h81_)
    intro h83_
    refine ⟨la_wrapIn5_14, ?_⟩
    refine ⟨la_wrapIn5_15, ?_⟩
    refine ⟨h82_, ?_⟩
    refine ⟨(sm_F1_up sm_F1_rf la_wrapIn5_16), ?_⟩
    refine ⟨(sm_F1_up sm_F1_rf la_wrapIn5_16), ?_⟩
    refine ⟨(sm_F1_up sm_F1_rf la_wrapIn5_16), ?_⟩
    refine ⟨(sm_F1_up sm_F1_rf la_wrapIn5_16), ?_⟩
    refine ⟨(sm_F1_up sm_F1_rf la_wrapIn5_16), ?_⟩
    refine ⟨?_, ?_⟩
    · skip
      have h84_ := ((h17_ (S 1059 0 + 1 - 1)) (la_wrapIn5_17 h12_))
      have e85_ : (if S 1059 0 + 1 - 1 = S 1059 0 + 1 - 1 then p1 else S 1100037 (S 1059 0 + 1 - 1) : Int) = p1 := if_pos la_wrapIn5_18
      exact e85_
    refine ⟨?_, ?_⟩
    · skip
      have h86_ := ((h17_ (S 1059 0 + 1 - 1)) (la_wrapIn5_17 h12_))
      have e87_ : (if S 1059 0 + 1 - 1 = S 1059 0 + 1 - 1 then p2 else S 1100038 (S 1059 0 + 1 - 1) : Int) = p2 := if_pos la_wrapIn5_18
      exact e87_
    refine ⟨?_, ?_⟩
    · skip
      have h88_ := ((h17_ (S 1059 0 + 1 - 1)) (la_wrapIn5_17 h12_))
      have e89_ : (if S 1059 0 + 1 - 1 = S 1059 0 + 1 - 1 then p3 else S 1100039 (S 1059 0 + 1 - 1) : Int) = p3 := if_pos la_wrapIn5_18
      exact e89_
    refine ⟨?_, ?_⟩
    · skip
      have h90_ := ((h17_ (S 1059 0 + 1 - 1)) (la_wrapIn5_17 h12_))
      have e91_ : (if S 1059 0 + 1 - 1 = S 1059 0 + 1 - 1 then p4 else S 1100040 (S 1059 0 + 1 - 1) : Int) = p4 := if_pos la_wrapIn5_18
      exact e91_
    have h92_ := ((h17_ (S 1059 0 + 1 - 1)) (la_wrapIn5_17 h12_))
    have e93_ : (if S 1059 0 + 1 - 1 = S 1059 0 + 1 - 1 then S 1060 0 else S 1100041 (S 1059 0 + 1 - 1) : Int) = S 1060 0 := if_pos la_wrapIn5_18
    exact e93_
  intro h94_
  refine ⟨h8_, ?_⟩
  refine ⟨h9_, ?_⟩
  refine ⟨h10_, ?_⟩
  refine ⟨h11_, ?_⟩
  refine ⟨(la_wrapIn5_20 h13_ h94_), ?_⟩
  intro h95_
  refine ⟨(la_wrapIn5_21 h13_ h94_), ?_⟩
  refine ⟨h2_, ?_⟩
  refine ⟨h3_, ?_⟩
  refine ⟨h4_, ?_⟩
  refine ⟨h5_, ?_⟩
  refine ⟨h95_, ?_⟩
  intro h96_
  intro h97_
  have h98_ := (h97_ la_wrapIn5_23)
  have h99_ := (h98_ (la_wrapIn5_24 h13_ h94_))
  have h167_ : (∀ i : Int, 0 ≤ i → i < S 1059 0 + 1 → (if i = S 1059 0 then p1 else (if i < 4000 then S 92 i else 0)) = (if i = S 1059 0 + 1 - 1 then p1 else S 1100037 i) ∧ (if i = S 1059 0 then p2 else (if i < 4000 then S 93 i else 0)) = (if i = S 1059 0 + 1 - 1 then p2 else S 1100038 i) ∧ (if i = S 1059 0 then p3 else (if i < 4000 then S 94 i else 0)) = (if i = S 1059 0 + 1 - 1 then p3 else S 1100039 i) ∧ (if i = S 1059 0 then p4 else (if i < 4000 then S 95 i else 0)) = (if i = S 1059 0 + 1 - 1 then p4 else S 1100040 i) ∧ (if i = S 1059 0 then S 1060 0 else (if i < 4000 then S 96 i else 0)) = (if i = S 1059 0 + 1 - 1 then S 1060 0 else S 1100041 i)) := by
    intro iv1
    intro h100_
    intro h101_
    refine ⟨?_, ?_⟩
    · skip
      have h102_ := ((h17_ iv1) h100_)
      by_cases c103_ : iv1 = S 1059 0
      · skip
        have e104_ : (if iv1 < 4000 then S 92 iv1 else 0 : Int) = 0 := if_neg (la_wrapIn5_25 h94_ c103_)
        have e105_ : (if iv1 = S 1059 0 then p1 else (if iv1 < 4000 then S 92 iv1 else 0) : Int) = p1 := if_pos c103_
        have e106_ : (if iv1 = S 1059 0 + 1 - 1 then p1 else S 1100037 iv1 : Int) = p1 := if_pos (la_wrapIn5_5 h101_ c103_)
        exact (la_wrapIn5_7 e105_ e106_)
      · skip
        have e107_ : (if iv1 = S 1059 0 then p1 else (if iv1 < 4000 then S 92 iv1 else 0) : Int) = (if iv1 < 4000 then S 92 iv1 else 0) := if_neg c103_
        have e108_ : (if iv1 < 4000 then S 92 iv1 else 0 : Int) = S 92 iv1 := if_pos (la_wrapIn5_26 h13_ (la_wrapIn5_9 (la_wrapIn5_8 h101_) c103_))
        have e109_ : (if iv1 = S 1059 0 + 1 - 1 then p1 else S 1100037 iv1 : Int) = S 1100037 iv1 := if_neg (la_wrapIn5_10 (la_wrapIn5_9 (la_wrapIn5_8 h101_) c103_))
        obtain ⟨h110_, ⟨h111_, ⟨h112_, ⟨h113_, h114_⟩⟩⟩⟩ := (h102_ (la_wrapIn5_9 (la_wrapIn5_8 h101_) c103_))
        exact (la_wrapIn5_27 e107_ e108_ e109_ h110_)
    refine ⟨?_, ?_⟩
    · skip
      have h115_ := ((h17_ iv1) h100_)
      by_cases c116_ : iv1 = S 1059 0
      · skip
        have e117_ : (if iv1 < 4000 then S 93 iv1 else 0 : Int) = 0 := if_neg (la_wrapIn5_25 h94_ c116_)
        have e118_ : (if iv1 = S 1059 0 then p2 else (if iv1 < 4000 then S 93 iv1 else 0) : Int) = p2 := if_pos c116_
        have e119_ : (if iv1 = S 1059 0 + 1 - 1 then p2 else S 1100038 iv1 : Int) = p2 := if_pos (la_wrapIn5_5 h101_ c116_)
        exact (la_wrapIn5_7 e118_ e119_)
      · skip
        have e120_ : (if iv1 = S 1059 0 then p2 else (if iv1 < 4000 then S 93 iv1 else 0) : Int) = (if iv1 < 4000 then S 93 iv1 else 0) := if_neg c116_
        have e121_ : (if iv1 < 4000 then S 93 iv1 else 0 : Int) = S 93 iv1 := if_pos (la_wrapIn5_26 h13_ (la_wrapIn5_9 (la_wrapIn5_8 h101_) c116_))
        have e122_ : (if iv1 = S 1059 0 + 1 - 1 then p2 else S 1100038 iv1 : Int) = S 1100038 iv1 := if_neg (la_wrapIn5_10 (la_wrapIn5_9 (la_wrapIn5_8 h101_) c116_))
        obtain ⟨h123_, ⟨h124_, ⟨h125_, ⟨h126_, h127_⟩⟩⟩⟩ := (h115_ (la_wrapIn5_9 (la_wrapIn5_8 h101_) c116_))
        exact (la_wrapIn5_27 e120_ e121_ e122_ h124_)
    refine ⟨?_, ?_⟩
    · skip
      have h128_ := ((h17_ iv1) h100_)
      by_cases c129_ : iv1 = S 1059 0
      · skip
        have e130_ : (if iv1 < 4000 then S 94 iv1 else 0 : Int) = 0 := if_neg (la_wrapIn5_25 h94_ c129_)
        have e131_ : (if iv1 = S 1059 0 + 1 - 1 then p3 else S 1100039 iv1 : Int) = p3 := if_pos (la_wrapIn5_5 h101_ c129_)
        have e132_ : (if iv1 = S 1059 0 then p3 else (if iv1 < 4000 then S 94 iv1 else 0) : Int) = p3 := if_pos c129_
        exact (la_wrapIn5_12 e131_ e132_)
      · skip
        have e133_ : (if iv1 = S 1059 0 then p3 else (if iv1 < 4000 then S 94 iv1 else 0) : Int) = (if iv1 < 4000 then S 94 iv1 else 0) := if_neg c129_
        have e134_ : (if iv1 < 4000 then S 94 iv1 else 0 : Int) = S 94 iv1 := if_pos (la_wrapIn5_26 h13_ (la_wrapIn5_9 (la_wrapIn5_8 h101_) c129_))
        have e135_ : (if iv1 = S 1059 0 + 1 - 1 then p3 else S 1100039 iv1 : Int) = S 1100039 iv1 := if_neg (la_wrapIn5_10 (la_wrapIn5_9 (la_wrapIn5_8 h101_) c129_))
        obtain ⟨h136_, ⟨h137_, ⟨h138_, ⟨h139_, h140_⟩⟩⟩⟩ := (h128_ (la_wrapIn5_9 (la_wrapIn5_8 h101_) c129_))
        exact (la_wrapIn5_27 e133_ e134_ e135_ h138_)
    refine ⟨?_, ?_⟩
    · skip
      have h141_ := ((h17_ iv1) h100_)
      by_cases c142_ : iv1 = S 1059 0
      · skip
        have e143_ : (if iv1 < 4000 then S 95 iv1 else 0 : Int) = 0 := if_neg (la_wrapIn5_25 h94_ c142_)
        have e144_ : (if iv1 = S 1059 0 + 1 - 1 then p4 else S 1100040 iv1 : Int) = p4 := if_pos (la_wrapIn5_5 h101_ c142_)
        have e145_ : (if iv1 = S 1059 0 then p4 else (if iv1 < 4000 then S 95 iv1 else 0) : Int) = p4 := if_pos c142_
        exact (la_wrapIn5_12 e144_ e145_)
      · skip
        have e146_ : (if iv1 = S 1059 0 then p4 else (if iv1 < 4000 then S 95 iv1 else 0) : Int) = (if iv1 < 4000 then S 95 iv1 else 0) := if_neg c142_
        have e147_ : (if iv1 < 4000 then S 95 iv1 else 0 : Int) = S 95 iv1 := if_pos (la_wrapIn5_26 h13_ (la_wrapIn5_9 (la_wrapIn5_8 h101_) c142_))
        have e148_ : (if iv1 = S 1059 0 + 1 - 1 then p4 else S 1100040 iv1 : Int) = S 1100040 iv1 := if_neg (la_wrapIn5_10 (la_wrapIn5_9 (la_wrapIn5_8 h101_) c142_))
        obtain ⟨h149_, ⟨h150_, ⟨h151_, ⟨h152_, h153_⟩⟩⟩⟩ := (h141_ (la_wrapIn5_9 (la_wrapIn5_8 h101_) c142_))
        exact (la_wrapIn5_27 e146_ e147_ e148_ h152_)
    have h154_ := ((h17_ iv1) h100_)
    by_cases c155_ : iv1 = S 1059 0
    · skip
      have e156_ : (if iv1 = S 1059 0 then S 1060 0 else (if iv1 < 4000 then S 96 iv1 else 0) : Int) = S 1060 0 := if_pos c155_
      have e157_ : (if iv1 < 4000 then S 96 iv1 else 0 : Int) = 0 := if_neg (la_wrapIn5_25 h94_ c155_)
      have e158_ : (if iv1 = S 1059 0 + 1 - 1 then S 1060 0 else S 1100041 iv1 : Int) = S 1060 0 := if_pos (la_wrapIn5_5 h101_ c155_)
      exact (la_wrapIn5_7 e156_ e158_)
    · skip
      have e159_ : (if iv1 = S 1059 0 then S 1060 0 else (if iv1 < 4000 then S 96 iv1 else 0) : Int) = (if iv1 < 4000 then S 96 iv1 else 0) := if_neg c155_
      have e160_ : (if iv1 < 4000 then S 96 iv1 else 0 : Int) = S 96 iv1 := if_pos (la_wrapIn5_26 h13_ (la_wrapIn5_9 (la_wrapIn5_8 h101_) c155_))
      have e161_ : (if iv1 = S 1059 0 + 1 - 1 then S 1060 0 else S 1100041 iv1 : Int) = S 1100041 iv1 := if_neg (la_wrapIn5_10 (la_wrapIn5_9 (la_wrapIn5_8 h101_) c155_))
      obtain ⟨h162_, ⟨h163_, ⟨h164_, ⟨h165_, h166_⟩⟩⟩⟩ := (h154_ (la_wrapIn5_9 (la_wrapIn5_8 h101_) c155_))
      exact (la_wrapIn5_27 e159_ e160_ e161_ h166_)
  have h168_ := (h99_ h167_)
  refine ⟨la_wrapIn5_14, ?_⟩
  refine ⟨la_wrapIn5_15, ?_⟩
  refine ⟨h168_, ?_⟩
  refine ⟨(sm_F1_up sm_F1_rf la_wrapIn5_16), ?_⟩
  refine ⟨(sm_F1_up sm_F1_rf la_wrapIn5_16), ?_⟩
  refine ⟨(sm_F1_up sm_F1_rf la_wrapIn5_16), ?_⟩
  refine ⟨(sm_F1_up sm_F1_rf la_wrapIn5_16), ?_⟩
  refine ⟨(sm_F1_up sm_F1_rf la_wrapIn5_16), ?_⟩
  refine ⟨?_, ?_⟩
  · skip
    have h169_ := ((h17_ (S 1059 0 + 1 - 1)) (la_wrapIn5_28 h94_))
    have e170_ : (if S 1059 0 + 1 - 1 = S 1059 0 + 1 - 1 then p1 else S 1100037 (S 1059 0 + 1 - 1) : Int) = p1 := if_pos la_wrapIn5_18
    exact e170_
  refine ⟨?_, ?_⟩
  · skip
    have h171_ := ((h17_ (S 1059 0 + 1 - 1)) (la_wrapIn5_28 h94_))
    have e172_ : (if S 1059 0 + 1 - 1 = S 1059 0 + 1 - 1 then p2 else S 1100038 (S 1059 0 + 1 - 1) : Int) = p2 := if_pos la_wrapIn5_18
    exact e172_
  refine ⟨?_, ?_⟩
  · skip
    have h173_ := ((h17_ (S 1059 0 + 1 - 1)) (la_wrapIn5_28 h94_))
    have e174_ : (if S 1059 0 + 1 - 1 = S 1059 0 + 1 - 1 then p3 else S 1100039 (S 1059 0 + 1 - 1) : Int) = p3 := if_pos la_wrapIn5_18
    exact e174_
  refine ⟨?_, ?_⟩
  · skip
    have h175_ := ((h17_ (S 1059 0 + 1 - 1)) (la_wrapIn5_28 h94_))
    have e176_ : (if S 1059 0 + 1 - 1 = S 1059 0 + 1 - 1 then p4 else S 1100040 (S 1059 0 + 1 - 1) : Int) = p4 := if_pos la_wrapIn5_18
    exact e176_
  have h177_ := ((h17_ (S 1059 0 + 1 - 1)) (la_wrapIn5_28 h94_))
  have e178_ : (if S 1059 0 + 1 - 1 = S 1059 0 + 1 - 1 then S 1060 0 else S 1100041 (S 1059 0 + 1 - 1) : Int) = S 1060 0 := if_pos la_wrapIn5_18
  exact e178_
set_option maxRecDepth 8000 in
set_option maxHeartbeats 8000000 in
theorem t_wrapIn5 : ∀ (p1 : Int) (p2 : Int) (p3 : Int) (p4 : Int) (S : sv_S), sm_ok S → sv_R p1 → sv_R p2 → sv_R p3 → sv_R p4 → ((S 1100000 0) = 5 ∧ (S 1061 0) = 92 ∧ (S 1062 0) = 93 ∧ (S 1063 0) = 94 ∧ (S 1064 0) = 95 ∧ (S 1065 0) = 96 ∧ 0 ≤ (S 1059 0) ∧ (S 1059 0) ≤ 4000 ∧ (S 1059 0) < 8000 ∧ -1 ≤ (S 1060 0) ∧ (S 1060 0) < (S 1059 0) ∧ (∀ i : Int, 0 ≤ i → i < (S 1059 0) → (S 92 i) = (S 1100037 i) ∧ (S 93 i) = (S 1100038 i) ∧ (S 94 i) = (S 1100039 i) ∧ (S 95 i) = (S 1100040 i) ∧ (S 96 i) = (S 1100041 i))) → sv_T sm_XS sm_cs sm_L sm_sh 4 (q_wrapIn5 p1 p2 p3 p4 S) 93 0 (lv_args 0 [.ref 0, sv_I p1, sv_I p2, sv_I p3, sv_I p4]) [] S := by
  intro p1 p2 p3 p4 S hok hp1 hp2 hp3 hp4 hpre
  have h := f_wrapIn5 p1 p2 p3 p4 S hok hp1 hp2 hp3 hp4 hpre
  have hM := sm_h93
  show sv_T sm_XS sm_cs sm_L sm_sh 4 (q_wrapIn5 p1 p2 p3 p4 S) 93 0 [(0, .ref 0), (1, sv_I p1), (2, sv_I p2), (3, sv_I p3), (4, sv_I p4)] [] S
  refine sv_aload_n hM dX12_wrapIn_0 rfl rfl ?_
  have k1 : sv_R (S 1059 0) := sm_okI hok sm_r1059 0
  have h := h k1
  refine sv_getI hM dX12_wrapIn_1 sm_fl_637 (sm_a0 _) sm_k59 rfl (x := (S 1059 0)) rfl ?_
  refine sv_aload_n hM dX12_wrapIn_4 rfl rfl ?_
  obtain ⟨o2, h⟩ := h
  refine sv_getY hM dX12_wrapIn_5 sm_fl_113 (sm_a0 _) (j := 92) ((sm_k61 _).trans (congrArg (fun z : Int => some (Value.ref z.toNat)) o2)) rfl ?_
  obtain ⟨o3, h⟩ := h
  refine sv_alen hM dX12_wrapIn_8 (sm_aD (m := 5) (q := 0) o3 (by decide) (by decide)) (by decide) (r := (4000 : Int)) (by decide) rfl ?_
  refine sv_icmp_ne hM dX12_wrapIn_9 k1 (⟨by decide, by decide⟩ : sv_R (4000 : Int)) (t := 67) rfl rfl (fun hc => ?_) (fun hc => ?_)
  · have h := h.1 (hc)
    refine sv_aload_n hM dX12_wrapIn_67 rfl rfl ?_
    refine sv_getY hM dX12_wrapIn_68 sm_fl_113 (sm_a0 _) (j := 92) ((sm_k61 _).trans (congrArg (fun z : Int => some (Value.ref z.toNat)) o2)) rfl ?_
    refine sv_aload_n hM dX12_wrapIn_71 rfl rfl ?_
    refine sv_getI hM dX12_wrapIn_72 sm_fl_637 (sm_a0 _) sm_k59 rfl (x := (S 1059 0)) rfl ?_
    refine sv_iload_n hM dX12_wrapIn_75 rfl rfl ?_
    obtain ⟨o4, h⟩ := h
    refine sv_iast sm_X hM dX12_wrapIn_76 (sm_aD (m := 5) (q := 0) o3 (by decide) (by decide)) (by decide) o4.1 o4.2 rfl ?_
    have ok5 : sm_ok (sv_up S 92 (S 1059 0) p1) := sm_upI hok sm_r92 hp1
    have md6 : sv_mod [1059, 1060, 1100000, 1061, 1062, 1063, 1064, 1065, 34, 35, 36, 37, 38, 92, 93, 94, 95, 96, 97, 98, 99, 100, 101, 1100037, 1100038, 1100039, 1100040, 1100041] S (sv_up S 92 (S 1059 0) p1) := sv_mod.up sv_mod.rf (by decide)
    refine sv_aload_n hM dX12_wrapIn_77 rfl rfl ?_
    obtain ⟨o7, h⟩ := h
    refine sv_getY hM dX12_wrapIn_78 sm_fl_116 (sm_a0 _) (j := 93) ((sm_k62 _).trans (congrArg (fun z : Int => some (Value.ref z.toNat)) o7)) rfl ?_
    refine sv_aload_n hM dX12_wrapIn_81 rfl rfl ?_
    refine sv_getI hM dX12_wrapIn_82 sm_fl_637 (sm_a0 _) sm_k59 rfl (x := (S 1059 0)) rfl ?_
    refine sv_iload_n hM dX12_wrapIn_85 rfl rfl ?_
    refine sv_iast sm_X hM dX12_wrapIn_86 (sm_aD (m := 5) (q := 1) o3 (by decide) (by decide)) (by decide) o4.1 o4.2 rfl ?_
    have ok8 : sm_ok (sv_up (sv_up S 92 (S 1059 0) p1) 93 (S 1059 0) p2) := sm_upI ok5 sm_r93 hp2
    have md9 : sv_mod [1059, 1060, 1100000, 1061, 1062, 1063, 1064, 1065, 34, 35, 36, 37, 38, 92, 93, 94, 95, 96, 97, 98, 99, 100, 101, 1100037, 1100038, 1100039, 1100040, 1100041] S (sv_up (sv_up S 92 (S 1059 0) p1) 93 (S 1059 0) p2) := sv_mod.up md6 (by decide)
    refine sv_aload_n hM dX12_wrapIn_87 rfl rfl ?_
    obtain ⟨o10, h⟩ := h
    refine sv_getY hM dX12_wrapIn_88 sm_fl_119 (sm_a0 _) (j := 94) ((sm_k63 _).trans (congrArg (fun z : Int => some (Value.ref z.toNat)) o10)) rfl ?_
    refine sv_aload_n hM dX12_wrapIn_91 rfl rfl ?_
    refine sv_getI hM dX12_wrapIn_92 sm_fl_637 (sm_a0 _) sm_k59 rfl (x := (S 1059 0)) rfl ?_
    refine sv_iload_n hM dX12_wrapIn_95 rfl rfl ?_
    refine sv_iast sm_X hM dX12_wrapIn_96 (sm_aD (m := 5) (q := 2) o3 (by decide) (by decide)) (by decide) o4.1 o4.2 rfl ?_
    have ok11 : sm_ok (sv_up (sv_up (sv_up S 92 (S 1059 0) p1) 93 (S 1059 0) p2) 94 (S 1059 0) p3) := sm_upI ok8 sm_r94 hp3
    have md12 : sv_mod [1059, 1060, 1100000, 1061, 1062, 1063, 1064, 1065, 34, 35, 36, 37, 38, 92, 93, 94, 95, 96, 97, 98, 99, 100, 101, 1100037, 1100038, 1100039, 1100040, 1100041] S (sv_up (sv_up (sv_up S 92 (S 1059 0) p1) 93 (S 1059 0) p2) 94 (S 1059 0) p3) := sv_mod.up md9 (by decide)
    refine sv_aload_n hM dX12_wrapIn_97 rfl rfl ?_
    obtain ⟨o13, h⟩ := h
    refine sv_getY hM dX12_wrapIn_98 sm_fl_122 (sm_a0 _) (j := 95) ((sm_k64 _).trans (congrArg (fun z : Int => some (Value.ref z.toNat)) o13)) rfl ?_
    refine sv_aload_n hM dX12_wrapIn_101 rfl rfl ?_
    refine sv_getI hM dX12_wrapIn_102 sm_fl_637 (sm_a0 _) sm_k59 rfl (x := (S 1059 0)) rfl ?_
    refine sv_iload hM dX12_wrapIn_105 rfl rfl ?_
    refine sv_iast sm_X hM dX12_wrapIn_107 (sm_aD (m := 5) (q := 3) o3 (by decide) (by decide)) (by decide) o4.1 o4.2 rfl ?_
    have ok14 : sm_ok (sv_up (sv_up (sv_up (sv_up S 92 (S 1059 0) p1) 93 (S 1059 0) p2) 94 (S 1059 0) p3) 95 (S 1059 0) p4) := sm_upI ok11 sm_r95 hp4
    have md15 : sv_mod [1059, 1060, 1100000, 1061, 1062, 1063, 1064, 1065, 34, 35, 36, 37, 38, 92, 93, 94, 95, 96, 97, 98, 99, 100, 101, 1100037, 1100038, 1100039, 1100040, 1100041] S (sv_up (sv_up (sv_up (sv_up S 92 (S 1059 0) p1) 93 (S 1059 0) p2) 94 (S 1059 0) p3) 95 (S 1059 0) p4) := sv_mod.up md12 (by decide)
    refine sv_aload_n hM dX12_wrapIn_108 rfl rfl ?_
    obtain ⟨o16, h⟩ := h
    refine sv_getY hM dX12_wrapIn_109 sm_fl_125 (sm_a0 _) (j := 96) ((sm_k65 _).trans (congrArg (fun z : Int => some (Value.ref z.toNat)) o16)) rfl ?_
    refine sv_aload_n hM dX12_wrapIn_112 rfl rfl ?_
    refine sv_getI hM dX12_wrapIn_113 sm_fl_637 (sm_a0 _) sm_k59 rfl (x := (S 1059 0)) rfl ?_
    refine sv_aload_n hM dX12_wrapIn_116 rfl rfl ?_
    have k17 : sv_R (S 1060 0) := sm_okI ok14 sm_r1060 0
    have h := h k17
    refine sv_getI hM dX12_wrapIn_117 sm_fl_634 (sm_a0 _) sm_k60 rfl (x := (S 1060 0)) rfl ?_
    refine sv_iast sm_X hM dX12_wrapIn_120 (sm_aD (m := 5) (q := 4) o3 (by decide) (by decide)) (by decide) o4.1 o4.2 rfl ?_
    have ok18 : sm_ok (sv_up (sv_up (sv_up (sv_up (sv_up S 92 (S 1059 0) p1) 93 (S 1059 0) p2) 94 (S 1059 0) p3) 95 (S 1059 0) p4) 96 (S 1059 0) (S 1060 0)) := sm_upI ok14 sm_r96 k17
    have md19 : sv_mod [1059, 1060, 1100000, 1061, 1062, 1063, 1064, 1065, 34, 35, 36, 37, 38, 92, 93, 94, 95, 96, 97, 98, 99, 100, 101, 1100037, 1100038, 1100039, 1100040, 1100041] S (sv_up (sv_up (sv_up (sv_up (sv_up S 92 (S 1059 0) p1) 93 (S 1059 0) p2) 94 (S 1059 0) p3) 95 (S 1059 0) p4) 96 (S 1059 0) (S 1060 0)) := sv_mod.up md15 (by decide)
    refine sv_aload_n hM dX12_wrapIn_121 rfl rfl ?_
    refine sv_aload_n hM dX12_wrapIn_122 rfl rfl ?_
    refine sv_getI hM dX12_wrapIn_123 sm_fl_637 (sm_a0 _) sm_k59 rfl (x := (S 1059 0)) rfl ?_
    refine sv_putI sm_X hM dX12_wrapIn_126 sm_fp_634 (sm_a0 _) sm_q60 (Or.inl rfl) rfl rfl rfl rfl ?_
    have ok20 : sm_ok (sv_up (sv_up (sv_up (sv_up (sv_up (sv_up S 92 (S 1059 0) p1) 93 (S 1059 0) p2) 94 (S 1059 0) p3) 95 (S 1059 0) p4) 96 (S 1059 0) (S 1060 0)) 1060 0 (S 1059 0)) := sm_upI ok18 sm_r1060 k1
    have md21 : sv_mod [1059, 1060, 1100000, 1061, 1062, 1063, 1064, 1065, 34, 35, 36, 37, 38, 92, 93, 94, 95, 96, 97, 98, 99, 100, 101, 1100037, 1100038, 1100039, 1100040, 1100041] S (sv_up (sv_up (sv_up (sv_up (sv_up (sv_up S 92 (S 1059 0) p1) 93 (S 1059 0) p2) 94 (S 1059 0) p3) 95 (S 1059 0) p4) 96 (S 1059 0) (S 1060 0)) 1060 0 (S 1059 0)) := sv_mod.up md19 (by decide)
    refine sv_aload_n hM dX12_wrapIn_129 rfl rfl ?_
    refine sv_dupA hM dX12_wrapIn_130 rfl ?_
    refine sv_getI hM dX12_wrapIn_131 sm_fl_637 (sm_a0 _) sm_k59 rfl (x := (S 1059 0)) rfl ?_
    refine sv_iconst (d := (1 : Int)) hM dX12_wrapIn_134 rfl rfl ?_
    refine sv_iadd hM dX12_wrapIn_135 rfl ?_
    obtain ⟨o22, h⟩ := h
    refine sv_putI sm_X hM dX12_wrapIn_136 sm_fp_637 (sm_a0 _) sm_q59 (Or.inl rfl) rfl rfl rfl rfl ?_
    have ok23 : sm_ok (sv_up (sv_up (sv_up (sv_up (sv_up (sv_up (sv_up S 92 (S 1059 0) p1) 93 (S 1059 0) p2) 94 (S 1059 0) p3) 95 (S 1059 0) p4) 96 (S 1059 0) (S 1060 0)) 1060 0 (S 1059 0)) 1059 0 ((S 1059 0) + (1 : Int))) := sm_upI ok20 sm_r1059 o22
    have md24 : sv_mod [1059, 1060, 1100000, 1061, 1062, 1063, 1064, 1065, 34, 35, 36, 37, 38, 92, 93, 94, 95, 96, 97, 98, 99, 100, 101, 1100037, 1100038, 1100039, 1100040, 1100041] S (sv_up (sv_up (sv_up (sv_up (sv_up (sv_up (sv_up S 92 (S 1059 0) p1) 93 (S 1059 0) p2) 94 (S 1059 0) p3) 95 (S 1059 0) p4) 96 (S 1059 0) (S 1060 0)) 1060 0 (S 1059 0)) 1059 0 ((S 1059 0) + (1 : Int))) := sv_mod.up md21 (by decide)
    obtain ⟨o25, h⟩ := h
    refine sv_ghost sm_X 1100037 (((S 1059 0) + (1 : Int)) - 1) (p1) (by decide) ?_
    have ok26 : sm_ok (sv_up (sv_up (sv_up (sv_up (sv_up (sv_up (sv_up (sv_up S 92 (S 1059 0) p1) 93 (S 1059 0) p2) 94 (S 1059 0) p3) 95 (S 1059 0) p4) 96 (S 1059 0) (S 1060 0)) 1060 0 (S 1059 0)) 1059 0 ((S 1059 0) + (1 : Int))) 1100037 (((S 1059 0) + (1 : Int)) - 1) (p1)) := sm_upI ok23 sm_r1100037 o25
    have md27 : sv_mod [1059, 1060, 1100000, 1061, 1062, 1063, 1064, 1065, 34, 35, 36, 37, 38, 92, 93, 94, 95, 96, 97, 98, 99, 100, 101, 1100037, 1100038, 1100039, 1100040, 1100041] S (sv_up (sv_up (sv_up (sv_up (sv_up (sv_up (sv_up (sv_up S 92 (S 1059 0) p1) 93 (S 1059 0) p2) 94 (S 1059 0) p3) 95 (S 1059 0) p4) 96 (S 1059 0) (S 1060 0)) 1060 0 (S 1059 0)) 1059 0 ((S 1059 0) + (1 : Int))) 1100037 (((S 1059 0) + (1 : Int)) - 1) (p1)) := sv_mod.up md24 (by decide)
    obtain ⟨o28, h⟩ := h
    refine sv_ghost sm_X 1100038 (((S 1059 0) + (1 : Int)) - 1) (p2) (by decide) ?_
    have ok29 : sm_ok (sv_up (sv_up (sv_up (sv_up (sv_up (sv_up (sv_up (sv_up (sv_up S 92 (S 1059 0) p1) 93 (S 1059 0) p2) 94 (S 1059 0) p3) 95 (S 1059 0) p4) 96 (S 1059 0) (S 1060 0)) 1060 0 (S 1059 0)) 1059 0 ((S 1059 0) + (1 : Int))) 1100037 (((S 1059 0) + (1 : Int)) - 1) (p1)) 1100038 (((S 1059 0) + (1 : Int)) - 1) (p2)) := sm_upI ok26 sm_r1100038 o28
    have md30 : sv_mod [1059, 1060, 1100000, 1061, 1062, 1063, 1064, 1065, 34, 35, 36, 37, 38, 92, 93, 94, 95, 96, 97, 98, 99, 100, 101, 1100037, 1100038, 1100039, 1100040, 1100041] S (sv_up (sv_up (sv_up (sv_up (sv_up (sv_up (sv_up (sv_up (sv_up S 92 (S 1059 0) p1) 93 (S 1059 0) p2) 94 (S 1059 0) p3) 95 (S 1059 0) p4) 96 (S 1059 0) (S 1060 0)) 1060 0 (S 1059 0)) 1059 0 ((S 1059 0) + (1 : Int))) 1100037 (((S 1059 0) + (1 : Int)) - 1) (p1)) 1100038 (((S 1059 0) + (1 : Int)) - 1) (p2)) := sv_mod.up md27 (by decide)
    obtain ⟨o31, h⟩ := h
    refine sv_ghost sm_X 1100039 (((S 1059 0) + (1 : Int)) - 1) (p3) (by decide) ?_
    have ok32 : sm_ok (sv_up (sv_up (sv_up (sv_up (sv_up (sv_up (sv_up (sv_up (sv_up (sv_up S 92 (S 1059 0) p1) 93 (S 1059 0) p2) 94 (S 1059 0) p3) 95 (S 1059 0) p4) 96 (S 1059 0) (S 1060 0)) 1060 0 (S 1059 0)) 1059 0 ((S 1059 0) + (1 : Int))) 1100037 (((S 1059 0) + (1 : Int)) - 1) (p1)) 1100038 (((S 1059 0) + (1 : Int)) - 1) (p2)) 1100039 (((S 1059 0) + (1 : Int)) - 1) (p3)) := sm_upI ok29 sm_r1100039 o31
    have md33 : sv_mod [1059, 1060, 1100000, 1061, 1062, 1063, 1064, 1065, 34, 35, 36, 37, 38, 92, 93, 94, 95, 96, 97, 98, 99, 100, 101, 1100037, 1100038, 1100039, 1100040, 1100041] S (sv_up (sv_up (sv_up (sv_up (sv_up (sv_up (sv_up (sv_up (sv_up (sv_up S 92 (S 1059 0) p1) 93 (S 1059 0) p2) 94 (S 1059 0) p3) 95 (S 1059 0) p4) 96 (S 1059 0) (S 1060 0)) 1060 0 (S 1059 0)) 1059 0 ((S 1059 0) + (1 : Int))) 1100037 (((S 1059 0) + (1 : Int)) - 1) (p1)) 1100038 (((S 1059 0) + (1 : Int)) - 1) (p2)) 1100039 (((S 1059 0) + (1 : Int)) - 1) (p3)) := sv_mod.up md30 (by decide)
    obtain ⟨o34, h⟩ := h
    refine sv_ghost sm_X 1100040 (((S 1059 0) + (1 : Int)) - 1) (p4) (by decide) ?_
    have ok35 : sm_ok (sv_up (sv_up (sv_up (sv_up (sv_up (sv_up (sv_up (sv_up (sv_up (sv_up (sv_up S 92 (S 1059 0) p1) 93 (S 1059 0) p2) 94 (S 1059 0) p3) 95 (S 1059 0) p4) 96 (S 1059 0) (S 1060 0)) 1060 0 (S 1059 0)) 1059 0 ((S 1059 0) + (1 : Int))) 1100037 (((S 1059 0) + (1 : Int)) - 1) (p1)) 1100038 (((S 1059 0) + (1 : Int)) - 1) (p2)) 1100039 (((S 1059 0) + (1 : Int)) - 1) (p3)) 1100040 (((S 1059 0) + (1 : Int)) - 1) (p4)) := sm_upI ok32 sm_r1100040 o34
    have md36 : sv_mod [1059, 1060, 1100000, 1061, 1062, 1063, 1064, 1065, 34, 35, 36, 37, 38, 92, 93, 94, 95, 96, 97, 98, 99, 100, 101, 1100037, 1100038, 1100039, 1100040, 1100041] S (sv_up (sv_up (sv_up (sv_up (sv_up (sv_up (sv_up (sv_up (sv_up (sv_up (sv_up S 92 (S 1059 0) p1) 93 (S 1059 0) p2) 94 (S 1059 0) p3) 95 (S 1059 0) p4) 96 (S 1059 0) (S 1060 0)) 1060 0 (S 1059 0)) 1059 0 ((S 1059 0) + (1 : Int))) 1100037 (((S 1059 0) + (1 : Int)) - 1) (p1)) 1100038 (((S 1059 0) + (1 : Int)) - 1) (p2)) 1100039 (((S 1059 0) + (1 : Int)) - 1) (p3)) 1100040 (((S 1059 0) + (1 : Int)) - 1) (p4)) := sv_mod.up md33 (by decide)
    obtain ⟨o37, h⟩ := h
    refine sv_ghost sm_X 1100041 (((S 1059 0) + (1 : Int)) - 1) (((S 1060 0))) (by decide) ?_
    have ok38 : sm_ok (sv_up (sv_up (sv_up (sv_up (sv_up (sv_up (sv_up (sv_up (sv_up (sv_up (sv_up (sv_up S 92 (S 1059 0) p1) 93 (S 1059 0) p2) 94 (S 1059 0) p3) 95 (S 1059 0) p4) 96 (S 1059 0) (S 1060 0)) 1060 0 (S 1059 0)) 1059 0 ((S 1059 0) + (1 : Int))) 1100037 (((S 1059 0) + (1 : Int)) - 1) (p1)) 1100038 (((S 1059 0) + (1 : Int)) - 1) (p2)) 1100039 (((S 1059 0) + (1 : Int)) - 1) (p3)) 1100040 (((S 1059 0) + (1 : Int)) - 1) (p4)) 1100041 (((S 1059 0) + (1 : Int)) - 1) (((S 1060 0)))) := sm_upI ok35 sm_r1100041 o37
    have md39 : sv_mod [1059, 1060, 1100000, 1061, 1062, 1063, 1064, 1065, 34, 35, 36, 37, 38, 92, 93, 94, 95, 96, 97, 98, 99, 100, 101, 1100037, 1100038, 1100039, 1100040, 1100041] S (sv_up (sv_up (sv_up (sv_up (sv_up (sv_up (sv_up (sv_up (sv_up (sv_up (sv_up (sv_up S 92 (S 1059 0) p1) 93 (S 1059 0) p2) 94 (S 1059 0) p3) 95 (S 1059 0) p4) 96 (S 1059 0) (S 1060 0)) 1060 0 (S 1059 0)) 1059 0 ((S 1059 0) + (1 : Int))) 1100037 (((S 1059 0) + (1 : Int)) - 1) (p1)) 1100038 (((S 1059 0) + (1 : Int)) - 1) (p2)) 1100039 (((S 1059 0) + (1 : Int)) - 1) (p3)) 1100040 (((S 1059 0) + (1 : Int)) - 1) (p4)) 1100041 (((S 1059 0) + (1 : Int)) - 1) (((S 1060 0)))) := sv_mod.up md36 (by decide)
    have k40 : (((S 1100000 0) = 5 ∧ (S 1061 0) = 92 ∧ (S 1062 0) = 93 ∧ (S 1063 0) = 94 ∧ (S 1064 0) = 95 ∧ (S 1065 0) = 96) → (0 ≤ ((S 1059 0) + (1 : Int)) ∧ ((S 1059 0) + (1 : Int)) ≤ 4000) → (∀ i : Int, 0 ≤ i → i < ((S 1059 0) + (1 : Int)) → (if i = (S 1059 0) then p1 else (S 92 i)) = (if i = (((S 1059 0) + (1 : Int)) - 1) then (p1) else (S 1100037 i)) ∧ (if i = (S 1059 0) then p2 else (S 93 i)) = (if i = (((S 1059 0) + (1 : Int)) - 1) then (p2) else (S 1100038 i)) ∧ (if i = (S 1059 0) then p3 else (S 94 i)) = (if i = (((S 1059 0) + (1 : Int)) - 1) then (p3) else (S 1100039 i)) ∧ (if i = (S 1059 0) then p4 else (S 95 i)) = (if i = (((S 1059 0) + (1 : Int)) - 1) then (p4) else (S 1100040 i)) ∧ (if i = (S 1059 0) then (S 1060 0) else (S 96 i)) = (if i = (((S 1059 0) + (1 : Int)) - 1) then (((S 1060 0))) else (S 1100041 i))) → sm_DY (S 1061 0) (S 1062 0) (S 1063 0) (S 1064 0) (S 1065 0) (S 1100000 0) ((S 1059 0) + (1 : Int)) (S 34) (S 35) (S 36) (S 37) (S 38) (fun i' : Int => if i' = (S 1059 0) then p1 else (S 92) i') (fun i' : Int => if i' = (S 1059 0) then p2 else (S 93) i') (fun i' : Int => if i' = (S 1059 0) then p3 else (S 94) i') (fun i' : Int => if i' = (S 1059 0) then p4 else (S 95) i') (fun i' : Int => if i' = (S 1059 0) then (S 1060 0) else (S 96) i') (S 97) (S 98) (S 99) (S 100) (S 101) (fun i' : Int => if i' = (((S 1059 0) + (1 : Int)) - 1) then (p1) else (S 1100037) i') (fun i' : Int => if i' = (((S 1059 0) + (1 : Int)) - 1) then (p2) else (S 1100038) i') (fun i' : Int => if i' = (((S 1059 0) + (1 : Int)) - 1) then (p3) else (S 1100039) i') (fun i' : Int => if i' = (((S 1059 0) + (1 : Int)) - 1) then (p4) else (S 1100040) i') (fun i' : Int => if i' = (((S 1059 0) + (1 : Int)) - 1) then (((S 1060 0))) else (S 1100041) i')) := fun a b c => sm_DY_5 a b c
    have h := h k40
    have k41 : (((S 1100000 0) = 10 ∧ (S 1061 0) = 97 ∧ (S 1062 0) = 98 ∧ (S 1063 0) = 99 ∧ (S 1064 0) = 100 ∧ (S 1065 0) = 101) → (0 ≤ ((S 1059 0) + (1 : Int)) ∧ ((S 1059 0) + (1 : Int)) ≤ 8000) → (∀ i : Int, 0 ≤ i → i < ((S 1059 0) + (1 : Int)) → (S 97 i) = (if i = (((S 1059 0) + (1 : Int)) - 1) then (p1) else (S 1100037 i)) ∧ (S 98 i) = (if i = (((S 1059 0) + (1 : Int)) - 1) then (p2) else (S 1100038 i)) ∧ (S 99 i) = (if i = (((S 1059 0) + (1 : Int)) - 1) then (p3) else (S 1100039 i)) ∧ (S 100 i) = (if i = (((S 1059 0) + (1 : Int)) - 1) then (p4) else (S 1100040 i)) ∧ (S 101 i) = (if i = (((S 1059 0) + (1 : Int)) - 1) then (((S 1060 0))) else (S 1100041 i))) → sm_DY (S 1061 0) (S 1062 0) (S 1063 0) (S 1064 0) (S 1065 0) (S 1100000 0) ((S 1059 0) + (1 : Int)) (S 34) (S 35) (S 36) (S 37) (S 38) (fun i' : Int => if i' = (S 1059 0) then p1 else (S 92) i') (fun i' : Int => if i' = (S 1059 0) then p2 else (S 93) i') (fun i' : Int => if i' = (S 1059 0) then p3 else (S 94) i') (fun i' : Int => if i' = (S 1059 0) then p4 else (S 95) i') (fun i' : Int => if i' = (S 1059 0) then (S 1060 0) else (S 96) i') (S 97) (S 98) (S 99) (S 100) (S 101) (fun i' : Int => if i' = (((S 1059 0) + (1 : Int)) - 1) then (p1) else (S 1100037) i') (fun i' : Int => if i' = (((S 1059 0) + (1 : Int)) - 1) then (p2) else (S 1100038) i') (fun i' : Int => if i' = (((S 1059 0) + (1 : Int)) - 1) then (p3) else (S 1100039) i') (fun i' : Int => if i' = (((S 1059 0) + (1 : Int)) - 1) then (p4) else (S 1100040) i') (fun i' : Int => if i' = (((S 1059 0) + (1 : Int)) - 1) then (((S 1060 0))) else (S 1100041) i')) := fun a b c => sm_DY_10 a b c
    have h := h k41
    exact sv_vret hM dX12_wrapIn_139 rfl ⟨rfl, ok38, md39, h⟩
  · have h := h.2 (hc)
    refine sv_aload_n hM dX12_wrapIn_12 rfl rfl ?_
    refine sv_aload_n hM dX12_wrapIn_13 rfl rfl ?_
    refine sv_getY hM dX12_wrapIn_14 sm_fl_113 (sm_a0 _) (j := 92) ((sm_k61 _).trans (congrArg (fun z : Int => some (Value.ref z.toNat)) o2)) rfl ?_
    have ok42 : sm_ok (sv_up S 1100000 0 (6 : Int)) := sm_upI hok sm_r1100000 (⟨by decide, by decide⟩ : sv_R (6 : Int))
    have ok43 : sm_ok (sv_row (sv_up S 1100000 0 (6 : Int)) 97 (fun i' : Int => if i' < (4000 : Int) then (S 92 i') else (0 : Int))) := sm_rowI ok42 sm_r97 (fun i => by split; exact sm_okI hok sm_r92 i; exact ⟨by decide, by decide⟩)
    have md44 : sv_mod [1059, 1060, 1100000, 1061, 1062, 1063, 1064, 1065, 34, 35, 36, 37, 38, 92, 93, 94, 95, 96, 97, 98, 99, 100, 101, 1100037, 1100038, 1100039, 1100040, 1100041] S (sv_row (sv_up S 1100000 0 (6 : Int)) 97 (fun i' : Int => if i' < (4000 : Int) then (S 92 i') else (0 : Int))) := sv_mod.row (sv_mod.up sv_mod.rf (by decide)) (by decide)
    have hL45 := sm_longer (S := S) (m := 5) (p := 92) (n := 4000) (f := (fun i' : Int => if i' < (4000 : Int) then (S 92 i') else (0 : Int))) o3 (by decide) (by decide) (fun j => rfl)
    refine sv_longer hM dX12_wrapIn_17 sm_iv_640 sm_h1003 (sm_aD (m := 5) (q := 0) o3 (by decide) (by decide)) (by decide) (Nat.le_of_ble_eq_true rfl) (Nat.le_of_ble_eq_true rfl) hL45.1 hL45.2.1 hL45.2.2 rfl ?_
    show sv_T sm_XS sm_cs sm_L sm_sh 4 (q_wrapIn5 p1 p2 p3 p4 S) 93 20 [(0, .ref 0), (1, sv_I p1), (2, sv_I p2), (3, sv_I p3), (4, sv_I p4)] [.ref 97, .ref 0] (sv_row (sv_up S 1100000 0 (6 : Int)) 97 (fun i' : Int => if i' < (4000 : Int) then (S 92 i') else (0 : Int)))
    refine sv_putY sm_X hM dX12_wrapIn_20 sm_fp_113 (sm_a0 _) sm_q61 rfl (x := (97 : Int)) rfl rfl ?_
    have ok46 : sm_ok (sv_up (sv_row (sv_up S 1100000 0 (6 : Int)) 97 (fun i' : Int => if i' < (4000 : Int) then (S 92 i') else (0 : Int))) 1061 0 (97 : Int)) := sm_upI ok43 sm_r1061 (⟨by decide, by decide⟩ : sv_R (97 : Int))
    have md47 : sv_mod [1059, 1060, 1100000, 1061, 1062, 1063, 1064, 1065, 34, 35, 36, 37, 38, 92, 93, 94, 95, 96, 97, 98, 99, 100, 101, 1100037, 1100038, 1100039, 1100040, 1100041] S (sv_up (sv_row (sv_up S 1100000 0 (6 : Int)) 97 (fun i' : Int => if i' < (4000 : Int) then (S 92 i') else (0 : Int))) 1061 0 (97 : Int)) := sv_mod.up md44 (by decide)
    refine sv_aload_n hM dX12_wrapIn_23 rfl rfl ?_
    refine sv_aload_n hM dX12_wrapIn_24 rfl rfl ?_
    obtain ⟨o48, h⟩ := h
    refine sv_getY hM dX12_wrapIn_25 sm_fl_116 (sm_a0 _) (j := 93) ((sm_k62 _).trans (congrArg (fun z : Int => some (Value.ref z.toNat)) o48)) rfl ?_
    have ok49 : sm_ok (sv_up (sv_up (sv_row (sv_up S 1100000 0 (6 : Int)) 97 (fun i' : Int => if i' < (4000 : Int) then (S 92 i') else (0 : Int))) 1061 0 (97 : Int)) 1100000 0 (7 : Int)) := sm_upI ok46 sm_r1100000 (⟨by decide, by decide⟩ : sv_R (7 : Int))
    have ok50 : sm_ok (sv_row (sv_up (sv_up (sv_row (sv_up S 1100000 0 (6 : Int)) 97 (fun i' : Int => if i' < (4000 : Int) then (S 92 i') else (0 : Int))) 1061 0 (97 : Int)) 1100000 0 (7 : Int)) 98 (fun i' : Int => if i' < (4000 : Int) then (S 93 i') else (0 : Int))) := sm_rowI ok49 sm_r98 (fun i => by split; exact sm_okI ok46 sm_r93 i; exact ⟨by decide, by decide⟩)
    have md51 : sv_mod [1059, 1060, 1100000, 1061, 1062, 1063, 1064, 1065, 34, 35, 36, 37, 38, 92, 93, 94, 95, 96, 97, 98, 99, 100, 101, 1100037, 1100038, 1100039, 1100040, 1100041] S (sv_row (sv_up (sv_up (sv_row (sv_up S 1100000 0 (6 : Int)) 97 (fun i' : Int => if i' < (4000 : Int) then (S 92 i') else (0 : Int))) 1061 0 (97 : Int)) 1100000 0 (7 : Int)) 98 (fun i' : Int => if i' < (4000 : Int) then (S 93 i') else (0 : Int))) := sv_mod.row (sv_mod.up md47 (by decide)) (by decide)
    have hL52 := sm_longer (S := (sv_up (sv_row (sv_up S 1100000 0 (6 : Int)) 97 (fun i' : Int => if i' < (4000 : Int) then (S 92 i') else (0 : Int))) 1061 0 (97 : Int))) (m := 6) (p := 93) (n := 4000) (f := (fun i' : Int => if i' < (4000 : Int) then (S 93 i') else (0 : Int))) rfl (by decide) (by decide) (fun j => rfl)
    refine sv_longer hM dX12_wrapIn_28 sm_iv_640 sm_h1003 (sm_aD (m := 6) (q := 1) rfl (by decide) (by decide)) (by decide) (Nat.le_of_ble_eq_true rfl) (Nat.le_of_ble_eq_true rfl) hL52.1 hL52.2.1 hL52.2.2 rfl ?_
    show sv_T sm_XS sm_cs sm_L sm_sh 4 (q_wrapIn5 p1 p2 p3 p4 S) 93 31 [(0, .ref 0), (1, sv_I p1), (2, sv_I p2), (3, sv_I p3), (4, sv_I p4)] [.ref 98, .ref 0] (sv_row (sv_up (sv_up (sv_row (sv_up S 1100000 0 (6 : Int)) 97 (fun i' : Int => if i' < (4000 : Int) then (S 92 i') else (0 : Int))) 1061 0 (97 : Int)) 1100000 0 (7 : Int)) 98 (fun i' : Int => if i' < (4000 : Int) then (S 93 i') else (0 : Int)))
    refine sv_putY sm_X hM dX12_wrapIn_31 sm_fp_116 (sm_a0 _) sm_q62 rfl (x := (98 : Int)) rfl rfl ?_
    have ok53 : sm_ok (sv_up (sv_row (sv_up (sv_up (sv_row (sv_up S 1100000 0 (6 : Int)) 97 (fun i' : Int => if i' < (4000 : Int) then (S 92 i') else (0 : Int))) 1061 0 (97 : Int)) 1100000 0 (7 : Int)) 98 (fun i' : Int => if i' < (4000 : Int) then (S 93 i') else (0 : Int))) 1062 0 (98 : Int)) := sm_upI ok50 sm_r1062 (⟨by decide, by decide⟩ : sv_R (98 : Int))
    have md54 : sv_mod [1059, 1060, 1100000, 1061, 1062, 1063, 1064, 1065, 34, 35, 36, 37, 38, 92, 93, 94, 95, 96, 97, 98, 99, 100, 101, 1100037, 1100038, 1100039, 1100040, 1100041] S (sv_up (sv_row (sv_up (sv_up (sv_row (sv_up S 1100000 0 (6 : Int)) 97 (fun i' : Int => if i' < (4000 : Int) then (S 92 i') else (0 : Int))) 1061 0 (97 : Int)) 1100000 0 (7 : Int)) 98 (fun i' : Int => if i' < (4000 : Int) then (S 93 i') else (0 : Int))) 1062 0 (98 : Int)) := sv_mod.up md51 (by decide)
    refine sv_aload_n hM dX12_wrapIn_34 rfl rfl ?_
    refine sv_aload_n hM dX12_wrapIn_35 rfl rfl ?_
    obtain ⟨o55, h⟩ := h
    refine sv_getY hM dX12_wrapIn_36 sm_fl_119 (sm_a0 _) (j := 94) ((sm_k63 _).trans (congrArg (fun z : Int => some (Value.ref z.toNat)) o55)) rfl ?_
    have ok56 : sm_ok (sv_up (sv_up (sv_row (sv_up (sv_up (sv_row (sv_up S 1100000 0 (6 : Int)) 97 (fun i' : Int => if i' < (4000 : Int) then (S 92 i') else (0 : Int))) 1061 0 (97 : Int)) 1100000 0 (7 : Int)) 98 (fun i' : Int => if i' < (4000 : Int) then (S 93 i') else (0 : Int))) 1062 0 (98 : Int)) 1100000 0 (8 : Int)) := sm_upI ok53 sm_r1100000 (⟨by decide, by decide⟩ : sv_R (8 : Int))
    have ok57 : sm_ok (sv_row (sv_up (sv_up (sv_row (sv_up (sv_up (sv_row (sv_up S 1100000 0 (6 : Int)) 97 (fun i' : Int => if i' < (4000 : Int) then (S 92 i') else (0 : Int))) 1061 0 (97 : Int)) 1100000 0 (7 : Int)) 98 (fun i' : Int => if i' < (4000 : Int) then (S 93 i') else (0 : Int))) 1062 0 (98 : Int)) 1100000 0 (8 : Int)) 99 (fun i' : Int => if i' < (4000 : Int) then (S 94 i') else (0 : Int))) := sm_rowI ok56 sm_r99 (fun i => by split; exact sm_okI ok53 sm_r94 i; exact ⟨by decide, by decide⟩)
    have md58 : sv_mod [1059, 1060, 1100000, 1061, 1062, 1063, 1064, 1065, 34, 35, 36, 37, 38, 92, 93, 94, 95, 96, 97, 98, 99, 100, 101, 1100037, 1100038, 1100039, 1100040, 1100041] S (sv_row (sv_up (sv_up (sv_row (sv_up (sv_up (sv_row (sv_up S 1100000 0 (6 : Int)) 97 (fun i' : Int => if i' < (4000 : Int) then (S 92 i') else (0 : Int))) 1061 0 (97 : Int)) 1100000 0 (7 : Int)) 98 (fun i' : Int => if i' < (4000 : Int) then (S 93 i') else (0 : Int))) 1062 0 (98 : Int)) 1100000 0 (8 : Int)) 99 (fun i' : Int => if i' < (4000 : Int) then (S 94 i') else (0 : Int))) := sv_mod.row (sv_mod.up md54 (by decide)) (by decide)
    have hL59 := sm_longer (S := (sv_up (sv_row (sv_up (sv_up (sv_row (sv_up S 1100000 0 (6 : Int)) 97 (fun i' : Int => if i' < (4000 : Int) then (S 92 i') else (0 : Int))) 1061 0 (97 : Int)) 1100000 0 (7 : Int)) 98 (fun i' : Int => if i' < (4000 : Int) then (S 93 i') else (0 : Int))) 1062 0 (98 : Int))) (m := 7) (p := 94) (n := 4000) (f := (fun i' : Int => if i' < (4000 : Int) then (S 94 i') else (0 : Int))) rfl (by decide) (by decide) (fun j => rfl)
    refine sv_longer hM dX12_wrapIn_39 sm_iv_640 sm_h1003 (sm_aD (m := 7) (q := 2) rfl (by decide) (by decide)) (by decide) (Nat.le_of_ble_eq_true rfl) (Nat.le_of_ble_eq_true rfl) hL59.1 hL59.2.1 hL59.2.2 rfl ?_
    show sv_T sm_XS sm_cs sm_L sm_sh 4 (q_wrapIn5 p1 p2 p3 p4 S) 93 42 [(0, .ref 0), (1, sv_I p1), (2, sv_I p2), (3, sv_I p3), (4, sv_I p4)] [.ref 99, .ref 0] (sv_row (sv_up (sv_up (sv_row (sv_up (sv_up (sv_row (sv_up S 1100000 0 (6 : Int)) 97 (fun i' : Int => if i' < (4000 : Int) then (S 92 i') else (0 : Int))) 1061 0 (97 : Int)) 1100000 0 (7 : Int)) 98 (fun i' : Int => if i' < (4000 : Int) then (S 93 i') else (0 : Int))) 1062 0 (98 : Int)) 1100000 0 (8 : Int)) 99 (fun i' : Int => if i' < (4000 : Int) then (S 94 i') else (0 : Int)))
    refine sv_putY sm_X hM dX12_wrapIn_42 sm_fp_119 (sm_a0 _) sm_q63 rfl (x := (99 : Int)) rfl rfl ?_
    have ok60 : sm_ok (sv_up (sv_row (sv_up (sv_up (sv_row (sv_up (sv_up (sv_row (sv_up S 1100000 0 (6 : Int)) 97 (fun i' : Int => if i' < (4000 : Int) then (S 92 i') else (0 : Int))) 1061 0 (97 : Int)) 1100000 0 (7 : Int)) 98 (fun i' : Int => if i' < (4000 : Int) then (S 93 i') else (0 : Int))) 1062 0 (98 : Int)) 1100000 0 (8 : Int)) 99 (fun i' : Int => if i' < (4000 : Int) then (S 94 i') else (0 : Int))) 1063 0 (99 : Int)) := sm_upI ok57 sm_r1063 (⟨by decide, by decide⟩ : sv_R (99 : Int))
    have md61 : sv_mod [1059, 1060, 1100000, 1061, 1062, 1063, 1064, 1065, 34, 35, 36, 37, 38, 92, 93, 94, 95, 96, 97, 98, 99, 100, 101, 1100037, 1100038, 1100039, 1100040, 1100041] S (sv_up (sv_row (sv_up (sv_up (sv_row (sv_up (sv_up (sv_row (sv_up S 1100000 0 (6 : Int)) 97 (fun i' : Int => if i' < (4000 : Int) then (S 92 i') else (0 : Int))) 1061 0 (97 : Int)) 1100000 0 (7 : Int)) 98 (fun i' : Int => if i' < (4000 : Int) then (S 93 i') else (0 : Int))) 1062 0 (98 : Int)) 1100000 0 (8 : Int)) 99 (fun i' : Int => if i' < (4000 : Int) then (S 94 i') else (0 : Int))) 1063 0 (99 : Int)) := sv_mod.up md58 (by decide)
    refine sv_aload_n hM dX12_wrapIn_45 rfl rfl ?_
    refine sv_aload_n hM dX12_wrapIn_46 rfl rfl ?_
    obtain ⟨o62, h⟩ := h
    refine sv_getY hM dX12_wrapIn_47 sm_fl_122 (sm_a0 _) (j := 95) ((sm_k64 _).trans (congrArg (fun z : Int => some (Value.ref z.toNat)) o62)) rfl ?_
    have ok63 : sm_ok (sv_up (sv_up (sv_row (sv_up (sv_up (sv_row (sv_up (sv_up (sv_row (sv_up S 1100000 0 (6 : Int)) 97 (fun i' : Int => if i' < (4000 : Int) then (S 92 i') else (0 : Int))) 1061 0 (97 : Int)) 1100000 0 (7 : Int)) 98 (fun i' : Int => if i' < (4000 : Int) then (S 93 i') else (0 : Int))) 1062 0 (98 : Int)) 1100000 0 (8 : Int)) 99 (fun i' : Int => if i' < (4000 : Int) then (S 94 i') else (0 : Int))) 1063 0 (99 : Int)) 1100000 0 (9 : Int)) := sm_upI ok60 sm_r1100000 (⟨by decide, by decide⟩ : sv_R (9 : Int))
    have ok64 : sm_ok (sv_row (sv_up (sv_up (sv_row (sv_up (sv_up (sv_row (sv_up (sv_up (sv_row (sv_up S 1100000 0 (6 : Int)) 97 (fun i' : Int => if i' < (4000 : Int) then (S 92 i') else (0 : Int))) 1061 0 (97 : Int)) 1100000 0 (7 : Int)) 98 (fun i' : Int => if i' < (4000 : Int) then (S 93 i') else (0 : Int))) 1062 0 (98 : Int)) 1100000 0 (8 : Int)) 99 (fun i' : Int => if i' < (4000 : Int) then (S 94 i') else (0 : Int))) 1063 0 (99 : Int)) 1100000 0 (9 : Int)) 100 (fun i' : Int => if i' < (4000 : Int) then (S 95 i') else (0 : Int))) := sm_rowI ok63 sm_r100 (fun i => by split; exact sm_okI ok60 sm_r95 i; exact ⟨by decide, by decide⟩)
    have md65 : sv_mod [1059, 1060, 1100000, 1061, 1062, 1063, 1064, 1065, 34, 35, 36, 37, 38, 92, 93, 94, 95, 96, 97, 98, 99, 100, 101, 1100037, 1100038, 1100039, 1100040, 1100041] S (sv_row (sv_up (sv_up (sv_row (sv_up (sv_up (sv_row (sv_up (sv_up (sv_row (sv_up S 1100000 0 (6 : Int)) 97 (fun i' : Int => if i' < (4000 : Int) then (S 92 i') else (0 : Int))) 1061 0 (97 : Int)) 1100000 0 (7 : Int)) 98 (fun i' : Int => if i' < (4000 : Int) then (S 93 i') else (0 : Int))) 1062 0 (98 : Int)) 1100000 0 (8 : Int)) 99 (fun i' : Int => if i' < (4000 : Int) then (S 94 i') else (0 : Int))) 1063 0 (99 : Int)) 1100000 0 (9 : Int)) 100 (fun i' : Int => if i' < (4000 : Int) then (S 95 i') else (0 : Int))) := sv_mod.row (sv_mod.up md61 (by decide)) (by decide)
    have hL66 := sm_longer (S := (sv_up (sv_row (sv_up (sv_up (sv_row (sv_up (sv_up (sv_row (sv_up S 1100000 0 (6 : Int)) 97 (fun i' : Int => if i' < (4000 : Int) then (S 92 i') else (0 : Int))) 1061 0 (97 : Int)) 1100000 0 (7 : Int)) 98 (fun i' : Int => if i' < (4000 : Int) then (S 93 i') else (0 : Int))) 1062 0 (98 : Int)) 1100000 0 (8 : Int)) 99 (fun i' : Int => if i' < (4000 : Int) then (S 94 i') else (0 : Int))) 1063 0 (99 : Int))) (m := 8) (p := 95) (n := 4000) (f := (fun i' : Int => if i' < (4000 : Int) then (S 95 i') else (0 : Int))) rfl (by decide) (by decide) (fun j => rfl)
    refine sv_longer hM dX12_wrapIn_50 sm_iv_640 sm_h1003 (sm_aD (m := 8) (q := 3) rfl (by decide) (by decide)) (by decide) (Nat.le_of_ble_eq_true rfl) (Nat.le_of_ble_eq_true rfl) hL66.1 hL66.2.1 hL66.2.2 rfl ?_
    show sv_T sm_XS sm_cs sm_L sm_sh 4 (q_wrapIn5 p1 p2 p3 p4 S) 93 53 [(0, .ref 0), (1, sv_I p1), (2, sv_I p2), (3, sv_I p3), (4, sv_I p4)] [.ref 100, .ref 0] (sv_row (sv_up (sv_up (sv_row (sv_up (sv_up (sv_row (sv_up (sv_up (sv_row (sv_up S 1100000 0 (6 : Int)) 97 (fun i' : Int => if i' < (4000 : Int) then (S 92 i') else (0 : Int))) 1061 0 (97 : Int)) 1100000 0 (7 : Int)) 98 (fun i' : Int => if i' < (4000 : Int) then (S 93 i') else (0 : Int))) 1062 0 (98 : Int)) 1100000 0 (8 : Int)) 99 (fun i' : Int => if i' < (4000 : Int) then (S 94 i') else (0 : Int))) 1063 0 (99 : Int)) 1100000 0 (9 : Int)) 100 (fun i' : Int => if i' < (4000 : Int) then (S 95 i') else (0 : Int)))
    refine sv_putY sm_X hM dX12_wrapIn_53 sm_fp_122 (sm_a0 _) sm_q64 rfl (x := (100 : Int)) rfl rfl ?_
    have ok67 : sm_ok (sv_up (sv_row (sv_up (sv_up (sv_row (sv_up (sv_up (sv_row (sv_up (sv_up (sv_row (sv_up S 1100000 0 (6 : Int)) 97 (fun i' : Int => if i' < (4000 : Int) then (S 92 i') else (0 : Int))) 1061 0 (97 : Int)) 1100000 0 (7 : Int)) 98 (fun i' : Int => if i' < (4000 : Int) then (S 93 i') else (0 : Int))) 1062 0 (98 : Int)) 1100000 0 (8 : Int)) 99 (fun i' : Int => if i' < (4000 : Int) then (S 94 i') else (0 : Int))) 1063 0 (99 : Int)) 1100000 0 (9 : Int)) 100 (fun i' : Int => if i' < (4000 : Int) then (S 95 i') else (0 : Int))) 1064 0 (100 : Int)) := sm_upI ok64 sm_r1064 (⟨by decide, by decide⟩ : sv_R (100 : Int))
    have md68 : sv_mod [1059, 1060, 1100000, 1061, 1062, 1063, 1064, 1065, 34, 35, 36, 37, 38, 92, 93, 94, 95, 96, 97, 98, 99, 100, 101, 1100037, 1100038, 1100039, 1100040, 1100041] S (sv_up (sv_row (sv_up (sv_up (sv_row (sv_up (sv_up (sv_row (sv_up (sv_up (sv_row (sv_up S 1100000 0 (6 : Int)) 97 (fun i' : Int => if i' < (4000 : Int) then (S 92 i') else (0 : Int))) 1061 0 (97 : Int)) 1100000 0 (7 : Int)) 98 (fun i' : Int => if i' < (4000 : Int) then (S 93 i') else (0 : Int))) 1062 0 (98 : Int)) 1100000 0 (8 : Int)) 99 (fun i' : Int => if i' < (4000 : Int) then (S 94 i') else (0 : Int))) 1063 0 (99 : Int)) 1100000 0 (9 : Int)) 100 (fun i' : Int => if i' < (4000 : Int) then (S 95 i') else (0 : Int))) 1064 0 (100 : Int)) := sv_mod.up md65 (by decide)
    refine sv_aload_n hM dX12_wrapIn_56 rfl rfl ?_
    refine sv_aload_n hM dX12_wrapIn_57 rfl rfl ?_
    obtain ⟨o69, h⟩ := h
    refine sv_getY hM dX12_wrapIn_58 sm_fl_125 (sm_a0 _) (j := 96) ((sm_k65 _).trans (congrArg (fun z : Int => some (Value.ref z.toNat)) o69)) rfl ?_
    have ok70 : sm_ok (sv_up (sv_up (sv_row (sv_up (sv_up (sv_row (sv_up (sv_up (sv_row (sv_up (sv_up (sv_row (sv_up S 1100000 0 (6 : Int)) 97 (fun i' : Int => if i' < (4000 : Int) then (S 92 i') else (0 : Int))) 1061 0 (97 : Int)) 1100000 0 (7 : Int)) 98 (fun i' : Int => if i' < (4000 : Int) then (S 93 i') else (0 : Int))) 1062 0 (98 : Int)) 1100000 0 (8 : Int)) 99 (fun i' : Int => if i' < (4000 : Int) then (S 94 i') else (0 : Int))) 1063 0 (99 : Int)) 1100000 0 (9 : Int)) 100 (fun i' : Int => if i' < (4000 : Int) then (S 95 i') else (0 : Int))) 1064 0 (100 : Int)) 1100000 0 (10 : Int)) := sm_upI ok67 sm_r1100000 (⟨by decide, by decide⟩ : sv_R (10 : Int))
    have ok71 : sm_ok (sv_row (sv_up (sv_up (sv_row (sv_up (sv_up (sv_row (sv_up (sv_up (sv_row (sv_up (sv_up (sv_row (sv_up S 1100000 0 (6 : Int)) 97 (fun i' : Int => if i' < (4000 : Int) then (S 92 i') else (0 : Int))) 1061 0 (97 : Int)) 1100000 0 (7 : Int)) 98 (fun i' : Int => if i' < (4000 : Int) then (S 93 i') else (0 : Int))) 1062 0 (98 : Int)) 1100000 0 (8 : Int)) 99 (fun i' : Int => if i' < (4000 : Int) then (S 94 i') else (0 : Int))) 1063 0 (99 : Int)) 1100000 0 (9 : Int)) 100 (fun i' : Int => if i' < (4000 : Int) then (S 95 i') else (0 : Int))) 1064 0 (100 : Int)) 1100000 0 (10 : Int)) 101 (fun i' : Int => if i' < (4000 : Int) then (S 96 i') else (0 : Int))) := sm_rowI ok70 sm_r101 (fun i => by split; exact sm_okI ok67 sm_r96 i; exact ⟨by decide, by decide⟩)
    have md72 : sv_mod [1059, 1060, 1100000, 1061, 1062, 1063, 1064, 1065, 34, 35, 36, 37, 38, 92, 93, 94, 95, 96, 97, 98, 99, 100, 101, 1100037, 1100038, 1100039, 1100040, 1100041] S (sv_row (sv_up (sv_up (sv_row (sv_up (sv_up (sv_row (sv_up (sv_up (sv_row (sv_up (sv_up (sv_row (sv_up S 1100000 0 (6 : Int)) 97 (fun i' : Int => if i' < (4000 : Int) then (S 92 i') else (0 : Int))) 1061 0 (97 : Int)) 1100000 0 (7 : Int)) 98 (fun i' : Int => if i' < (4000 : Int) then (S 93 i') else (0 : Int))) 1062 0 (98 : Int)) 1100000 0 (8 : Int)) 99 (fun i' : Int => if i' < (4000 : Int) then (S 94 i') else (0 : Int))) 1063 0 (99 : Int)) 1100000 0 (9 : Int)) 100 (fun i' : Int => if i' < (4000 : Int) then (S 95 i') else (0 : Int))) 1064 0 (100 : Int)) 1100000 0 (10 : Int)) 101 (fun i' : Int => if i' < (4000 : Int) then (S 96 i') else (0 : Int))) := sv_mod.row (sv_mod.up md68 (by decide)) (by decide)
    have hL73 := sm_longer (S := (sv_up (sv_row (sv_up (sv_up (sv_row (sv_up (sv_up (sv_row (sv_up (sv_up (sv_row (sv_up S 1100000 0 (6 : Int)) 97 (fun i' : Int => if i' < (4000 : Int) then (S 92 i') else (0 : Int))) 1061 0 (97 : Int)) 1100000 0 (7 : Int)) 98 (fun i' : Int => if i' < (4000 : Int) then (S 93 i') else (0 : Int))) 1062 0 (98 : Int)) 1100000 0 (8 : Int)) 99 (fun i' : Int => if i' < (4000 : Int) then (S 94 i') else (0 : Int))) 1063 0 (99 : Int)) 1100000 0 (9 : Int)) 100 (fun i' : Int => if i' < (4000 : Int) then (S 95 i') else (0 : Int))) 1064 0 (100 : Int))) (m := 9) (p := 96) (n := 4000) (f := (fun i' : Int => if i' < (4000 : Int) then (S 96 i') else (0 : Int))) rfl (by decide) (by decide) (fun j => rfl)
    refine sv_longer hM dX12_wrapIn_61 sm_iv_640 sm_h1003 (sm_aD (m := 9) (q := 4) rfl (by decide) (by decide)) (by decide) (Nat.le_of_ble_eq_true rfl) (Nat.le_of_ble_eq_true rfl) hL73.1 hL73.2.1 hL73.2.2 rfl ?_
    show sv_T sm_XS sm_cs sm_L sm_sh 4 (q_wrapIn5 p1 p2 p3 p4 S) 93 64 [(0, .ref 0), (1, sv_I p1), (2, sv_I p2), (3, sv_I p3), (4, sv_I p4)] [.ref 101, .ref 0] (sv_row (sv_up (sv_up (sv_row (sv_up (sv_up (sv_row (sv_up (sv_up (sv_row (sv_up (sv_up (sv_row (sv_up S 1100000 0 (6 : Int)) 97 (fun i' : Int => if i' < (4000 : Int) then (S 92 i') else (0 : Int))) 1061 0 (97 : Int)) 1100000 0 (7 : Int)) 98 (fun i' : Int => if i' < (4000 : Int) then (S 93 i') else (0 : Int))) 1062 0 (98 : Int)) 1100000 0 (8 : Int)) 99 (fun i' : Int => if i' < (4000 : Int) then (S 94 i') else (0 : Int))) 1063 0 (99 : Int)) 1100000 0 (9 : Int)) 100 (fun i' : Int => if i' < (4000 : Int) then (S 95 i') else (0 : Int))) 1064 0 (100 : Int)) 1100000 0 (10 : Int)) 101 (fun i' : Int => if i' < (4000 : Int) then (S 96 i') else (0 : Int)))
    refine sv_putY sm_X hM dX12_wrapIn_64 sm_fp_125 (sm_a0 _) sm_q65 rfl (x := (101 : Int)) rfl rfl ?_
    have ok74 : sm_ok (sv_up (sv_row (sv_up (sv_up (sv_row (sv_up (sv_up (sv_row (sv_up (sv_up (sv_row (sv_up (sv_up (sv_row (sv_up S 1100000 0 (6 : Int)) 97 (fun i' : Int => if i' < (4000 : Int) then (S 92 i') else (0 : Int))) 1061 0 (97 : Int)) 1100000 0 (7 : Int)) 98 (fun i' : Int => if i' < (4000 : Int) then (S 93 i') else (0 : Int))) 1062 0 (98 : Int)) 1100000 0 (8 : Int)) 99 (fun i' : Int => if i' < (4000 : Int) then (S 94 i') else (0 : Int))) 1063 0 (99 : Int)) 1100000 0 (9 : Int)) 100 (fun i' : Int => if i' < (4000 : Int) then (S 95 i') else (0 : Int))) 1064 0 (100 : Int)) 1100000 0 (10 : Int)) 101 (fun i' : Int => if i' < (4000 : Int) then (S 96 i') else (0 : Int))) 1065 0 (101 : Int)) := sm_upI ok71 sm_r1065 (⟨by decide, by decide⟩ : sv_R (101 : Int))
    have md75 : sv_mod [1059, 1060, 1100000, 1061, 1062, 1063, 1064, 1065, 34, 35, 36, 37, 38, 92, 93, 94, 95, 96, 97, 98, 99, 100, 101, 1100037, 1100038, 1100039, 1100040, 1100041] S (sv_up (sv_row (sv_up (sv_up (sv_row (sv_up (sv_up (sv_row (sv_up (sv_up (sv_row (sv_up (sv_up (sv_row (sv_up S 1100000 0 (6 : Int)) 97 (fun i' : Int => if i' < (4000 : Int) then (S 92 i') else (0 : Int))) 1061 0 (97 : Int)) 1100000 0 (7 : Int)) 98 (fun i' : Int => if i' < (4000 : Int) then (S 93 i') else (0 : Int))) 1062 0 (98 : Int)) 1100000 0 (8 : Int)) 99 (fun i' : Int => if i' < (4000 : Int) then (S 94 i') else (0 : Int))) 1063 0 (99 : Int)) 1100000 0 (9 : Int)) 100 (fun i' : Int => if i' < (4000 : Int) then (S 95 i') else (0 : Int))) 1064 0 (100 : Int)) 1100000 0 (10 : Int)) 101 (fun i' : Int => if i' < (4000 : Int) then (S 96 i') else (0 : Int))) 1065 0 (101 : Int)) := sv_mod.up md72 (by decide)
    refine sv_aload_n hM dX12_wrapIn_67 rfl rfl ?_
    refine sv_getY hM dX12_wrapIn_68 sm_fl_113 (sm_a0 _) (j := 97) (sm_k61 _) rfl ?_
    refine sv_aload_n hM dX12_wrapIn_71 rfl rfl ?_
    refine sv_getI hM dX12_wrapIn_72 sm_fl_637 (sm_a0 _) sm_k59 rfl (x := (S 1059 0)) rfl ?_
    refine sv_iload_n hM dX12_wrapIn_75 rfl rfl ?_
    obtain ⟨o76, h⟩ := h
    refine sv_iast sm_X hM dX12_wrapIn_76 (sm_aD (m := 10) (q := 5) rfl (by decide) (by decide)) (by decide) o76.1 o76.2 rfl ?_
    have ok77 : sm_ok (sv_up (sv_up (sv_row (sv_up (sv_up (sv_row (sv_up (sv_up (sv_row (sv_up (sv_up (sv_row (sv_up (sv_up (sv_row (sv_up S 1100000 0 (6 : Int)) 97 (fun i' : Int => if i' < (4000 : Int) then (S 92 i') else (0 : Int))) 1061 0 (97 : Int)) 1100000 0 (7 : Int)) 98 (fun i' : Int => if i' < (4000 : Int) then (S 93 i') else (0 : Int))) 1062 0 (98 : Int)) 1100000 0 (8 : Int)) 99 (fun i' : Int => if i' < (4000 : Int) then (S 94 i') else (0 : Int))) 1063 0 (99 : Int)) 1100000 0 (9 : Int)) 100 (fun i' : Int => if i' < (4000 : Int) then (S 95 i') else (0 : Int))) 1064 0 (100 : Int)) 1100000 0 (10 : Int)) 101 (fun i' : Int => if i' < (4000 : Int) then (S 96 i') else (0 : Int))) 1065 0 (101 : Int)) 97 (S 1059 0) p1) := sm_upI ok74 sm_r97 hp1
    have md78 : sv_mod [1059, 1060, 1100000, 1061, 1062, 1063, 1064, 1065, 34, 35, 36, 37, 38, 92, 93, 94, 95, 96, 97, 98, 99, 100, 101, 1100037, 1100038, 1100039, 1100040, 1100041] S (sv_up (sv_up (sv_row (sv_up (sv_up (sv_row (sv_up (sv_up (sv_row (sv_up (sv_up (sv_row (sv_up (sv_up (sv_row (sv_up S 1100000 0 (6 : Int)) 97 (fun i' : Int => if i' < (4000 : Int) then (S 92 i') else (0 : Int))) 1061 0 (97 : Int)) 1100000 0 (7 : Int)) 98 (fun i' : Int => if i' < (4000 : Int) then (S 93 i') else (0 : Int))) 1062 0 (98 : Int)) 1100000 0 (8 : Int)) 99 (fun i' : Int => if i' < (4000 : Int) then (S 94 i') else (0 : Int))) 1063 0 (99 : Int)) 1100000 0 (9 : Int)) 100 (fun i' : Int => if i' < (4000 : Int) then (S 95 i') else (0 : Int))) 1064 0 (100 : Int)) 1100000 0 (10 : Int)) 101 (fun i' : Int => if i' < (4000 : Int) then (S 96 i') else (0 : Int))) 1065 0 (101 : Int)) 97 (S 1059 0) p1) := sv_mod.up md75 (by decide)
    refine sv_aload_n hM dX12_wrapIn_77 rfl rfl ?_
    refine sv_getY hM dX12_wrapIn_78 sm_fl_116 (sm_a0 _) (j := 98) (sm_k62 _) rfl ?_
    refine sv_aload_n hM dX12_wrapIn_81 rfl rfl ?_
    refine sv_getI hM dX12_wrapIn_82 sm_fl_637 (sm_a0 _) sm_k59 rfl (x := (S 1059 0)) rfl ?_
    refine sv_iload_n hM dX12_wrapIn_85 rfl rfl ?_
    refine sv_iast sm_X hM dX12_wrapIn_86 (sm_aD (m := 10) (q := 6) rfl (by decide) (by decide)) (by decide) o76.1 o76.2 rfl ?_
    have ok79 : sm_ok (sv_up (sv_up (sv_up (sv_row (sv_up (sv_up (sv_row (sv_up (sv_up (sv_row (sv_up (sv_up (sv_row (sv_up (sv_up (sv_row (sv_up S 1100000 0 (6 : Int)) 97 (fun i' : Int => if i' < (4000 : Int) then (S 92 i') else (0 : Int))) 1061 0 (97 : Int)) 1100000 0 (7 : Int)) 98 (fun i' : Int => if i' < (4000 : Int) then (S 93 i') else (0 : Int))) 1062 0 (98 : Int)) 1100000 0 (8 : Int)) 99 (fun i' : Int => if i' < (4000 : Int) then (S 94 i') else (0 : Int))) 1063 0 (99 : Int)) 1100000 0 (9 : Int)) 100 (fun i' : Int => if i' < (4000 : Int) then (S 95 i') else (0 : Int))) 1064 0 (100 : Int)) 1100000 0 (10 : Int)) 101 (fun i' : Int => if i' < (4000 : Int) then (S 96 i') else (0 : Int))) 1065 0 (101 : Int)) 97 (S 1059 0) p1) 98 (S 1059 0) p2) := sm_upI ok77 sm_r98 hp2
    have md80 : sv_mod [1059, 1060, 1100000, 1061, 1062, 1063, 1064, 1065, 34, 35, 36, 37, 38, 92, 93, 94, 95, 96, 97, 98, 99, 100, 101, 1100037, 1100038, 1100039, 1100040, 1100041] S (sv_up (sv_up (sv_up (sv_row (sv_up (sv_up (sv_row (sv_up (sv_up (sv_row (sv_up (sv_up (sv_row (sv_up (sv_up (sv_row (sv_up S 1100000 0 (6 : Int)) 97 (fun i' : Int => if i' < (4000 : Int) then (S 92 i') else (0 : Int))) 1061 0 (97 : Int)) 1100000 0 (7 : Int)) 98 (fun i' : Int => if i' < (4000 : Int) then (S 93 i') else (0 : Int))) 1062 0 (98 : Int)) 1100000 0 (8 : Int)) 99 (fun i' : Int => if i' < (4000 : Int) then (S 94 i') else (0 : Int))) 1063 0 (99 : Int)) 1100000 0 (9 : Int)) 100 (fun i' : Int => if i' < (4000 : Int) then (S 95 i') else (0 : Int))) 1064 0 (100 : Int)) 1100000 0 (10 : Int)) 101 (fun i' : Int => if i' < (4000 : Int) then (S 96 i') else (0 : Int))) 1065 0 (101 : Int)) 97 (S 1059 0) p1) 98 (S 1059 0) p2) := sv_mod.up md78 (by decide)
    refine sv_aload_n hM dX12_wrapIn_87 rfl rfl ?_
    refine sv_getY hM dX12_wrapIn_88 sm_fl_119 (sm_a0 _) (j := 99) (sm_k63 _) rfl ?_
    refine sv_aload_n hM dX12_wrapIn_91 rfl rfl ?_
    refine sv_getI hM dX12_wrapIn_92 sm_fl_637 (sm_a0 _) sm_k59 rfl (x := (S 1059 0)) rfl ?_
    refine sv_iload_n hM dX12_wrapIn_95 rfl rfl ?_
    refine sv_iast sm_X hM dX12_wrapIn_96 (sm_aD (m := 10) (q := 7) rfl (by decide) (by decide)) (by decide) o76.1 o76.2 rfl ?_
    have ok81 : sm_ok (sv_up (sv_up (sv_up (sv_up (sv_row (sv_up (sv_up (sv_row (sv_up (sv_up (sv_row (sv_up (sv_up (sv_row (sv_up (sv_up (sv_row (sv_up S 1100000 0 (6 : Int)) 97 (fun i' : Int => if i' < (4000 : Int) then (S 92 i') else (0 : Int))) 1061 0 (97 : Int)) 1100000 0 (7 : Int)) 98 (fun i' : Int => if i' < (4000 : Int) then (S 93 i') else (0 : Int))) 1062 0 (98 : Int)) 1100000 0 (8 : Int)) 99 (fun i' : Int => if i' < (4000 : Int) then (S 94 i') else (0 : Int))) 1063 0 (99 : Int)) 1100000 0 (9 : Int)) 100 (fun i' : Int => if i' < (4000 : Int) then (S 95 i') else (0 : Int))) 1064 0 (100 : Int)) 1100000 0 (10 : Int)) 101 (fun i' : Int => if i' < (4000 : Int) then (S 96 i') else (0 : Int))) 1065 0 (101 : Int)) 97 (S 1059 0) p1) 98 (S 1059 0) p2) 99 (S 1059 0) p3) := sm_upI ok79 sm_r99 hp3
    have md82 : sv_mod [1059, 1060, 1100000, 1061, 1062, 1063, 1064, 1065, 34, 35, 36, 37, 38, 92, 93, 94, 95, 96, 97, 98, 99, 100, 101, 1100037, 1100038, 1100039, 1100040, 1100041] S (sv_up (sv_up (sv_up (sv_up (sv_row (sv_up (sv_up (sv_row (sv_up (sv_up (sv_row (sv_up (sv_up (sv_row (sv_up (sv_up (sv_row (sv_up S 1100000 0 (6 : Int)) 97 (fun i' : Int => if i' < (4000 : Int) then (S 92 i') else (0 : Int))) 1061 0 (97 : Int)) 1100000 0 (7 : Int)) 98 (fun i' : Int => if i' < (4000 : Int) then (S 93 i') else (0 : Int))) 1062 0 (98 : Int)) 1100000 0 (8 : Int)) 99 (fun i' : Int => if i' < (4000 : Int) then (S 94 i') else (0 : Int))) 1063 0 (99 : Int)) 1100000 0 (9 : Int)) 100 (fun i' : Int => if i' < (4000 : Int) then (S 95 i') else (0 : Int))) 1064 0 (100 : Int)) 1100000 0 (10 : Int)) 101 (fun i' : Int => if i' < (4000 : Int) then (S 96 i') else (0 : Int))) 1065 0 (101 : Int)) 97 (S 1059 0) p1) 98 (S 1059 0) p2) 99 (S 1059 0) p3) := sv_mod.up md80 (by decide)
    refine sv_aload_n hM dX12_wrapIn_97 rfl rfl ?_
    refine sv_getY hM dX12_wrapIn_98 sm_fl_122 (sm_a0 _) (j := 100) (sm_k64 _) rfl ?_
    refine sv_aload_n hM dX12_wrapIn_101 rfl rfl ?_
    refine sv_getI hM dX12_wrapIn_102 sm_fl_637 (sm_a0 _) sm_k59 rfl (x := (S 1059 0)) rfl ?_
    refine sv_iload hM dX12_wrapIn_105 rfl rfl ?_
    refine sv_iast sm_X hM dX12_wrapIn_107 (sm_aD (m := 10) (q := 8) rfl (by decide) (by decide)) (by decide) o76.1 o76.2 rfl ?_
    have ok83 : sm_ok (sv_up (sv_up (sv_up (sv_up (sv_up (sv_row (sv_up (sv_up (sv_row (sv_up (sv_up (sv_row (sv_up (sv_up (sv_row (sv_up (sv_up (sv_row (sv_up S 1100000 0 (6 : Int)) 97 (fun i' : Int => if i' < (4000 : Int) then (S 92 i') else (0 : Int))) 1061 0 (97 : Int)) 1100000 0 (7 : Int)) 98 (fun i' : Int => if i' < (4000 : Int) then (S 93 i') else (0 : Int))) 1062 0 (98 : Int)) 1100000 0 (8 : Int)) 99 (fun i' : Int => if i' < (4000 : Int) then (S 94 i') else (0 : Int))) 1063 0 (99 : Int)) 1100000 0 (9 : Int)) 100 (fun i' : Int => if i' < (4000 : Int) then (S 95 i') else (0 : Int))) 1064 0 (100 : Int)) 1100000 0 (10 : Int)) 101 (fun i' : Int => if i' < (4000 : Int) then (S 96 i') else (0 : Int))) 1065 0 (101 : Int)) 97 (S 1059 0) p1) 98 (S 1059 0) p2) 99 (S 1059 0) p3) 100 (S 1059 0) p4) := sm_upI ok81 sm_r100 hp4
    have md84 : sv_mod [1059, 1060, 1100000, 1061, 1062, 1063, 1064, 1065, 34, 35, 36, 37, 38, 92, 93, 94, 95, 96, 97, 98, 99, 100, 101, 1100037, 1100038, 1100039, 1100040, 1100041] S (sv_up (sv_up (sv_up (sv_up (sv_up (sv_row (sv_up (sv_up (sv_row (sv_up (sv_up (sv_row (sv_up (sv_up (sv_row (sv_up (sv_up (sv_row (sv_up S 1100000 0 (6 : Int)) 97 (fun i' : Int => if i' < (4000 : Int) then (S 92 i') else (0 : Int))) 1061 0 (97 : Int)) 1100000 0 (7 : Int)) 98 (fun i' : Int => if i' < (4000 : Int) then (S 93 i') else (0 : Int))) 1062 0 (98 : Int)) 1100000 0 (8 : Int)) 99 (fun i' : Int => if i' < (4000 : Int) then (S 94 i') else (0 : Int))) 1063 0 (99 : Int)) 1100000 0 (9 : Int)) 100 (fun i' : Int => if i' < (4000 : Int) then (S 95 i') else (0 : Int))) 1064 0 (100 : Int)) 1100000 0 (10 : Int)) 101 (fun i' : Int => if i' < (4000 : Int) then (S 96 i') else (0 : Int))) 1065 0 (101 : Int)) 97 (S 1059 0) p1) 98 (S 1059 0) p2) 99 (S 1059 0) p3) 100 (S 1059 0) p4) := sv_mod.up md82 (by decide)
    refine sv_aload_n hM dX12_wrapIn_108 rfl rfl ?_
    refine sv_getY hM dX12_wrapIn_109 sm_fl_125 (sm_a0 _) (j := 101) (sm_k65 _) rfl ?_
    refine sv_aload_n hM dX12_wrapIn_112 rfl rfl ?_
    refine sv_getI hM dX12_wrapIn_113 sm_fl_637 (sm_a0 _) sm_k59 rfl (x := (S 1059 0)) rfl ?_
    refine sv_aload_n hM dX12_wrapIn_116 rfl rfl ?_
    have k85 : sv_R (S 1060 0) := sm_okI ok83 sm_r1060 0
    have h := h k85
    refine sv_getI hM dX12_wrapIn_117 sm_fl_634 (sm_a0 _) sm_k60 rfl (x := (S 1060 0)) rfl ?_
    refine sv_iast sm_X hM dX12_wrapIn_120 (sm_aD (m := 10) (q := 9) rfl (by decide) (by decide)) (by decide) o76.1 o76.2 rfl ?_
    have ok86 : sm_ok (sv_up (sv_up (sv_up (sv_up (sv_up (sv_up (sv_row (sv_up (sv_up (sv_row (sv_up (sv_up (sv_row (sv_up (sv_up (sv_row (sv_up (sv_up (sv_row (sv_up S 1100000 0 (6 : Int)) 97 (fun i' : Int => if i' < (4000 : Int) then (S 92 i') else (0 : Int))) 1061 0 (97 : Int)) 1100000 0 (7 : Int)) 98 (fun i' : Int => if i' < (4000 : Int) then (S 93 i') else (0 : Int))) 1062 0 (98 : Int)) 1100000 0 (8 : Int)) 99 (fun i' : Int => if i' < (4000 : Int) then (S 94 i') else (0 : Int))) 1063 0 (99 : Int)) 1100000 0 (9 : Int)) 100 (fun i' : Int => if i' < (4000 : Int) then (S 95 i') else (0 : Int))) 1064 0 (100 : Int)) 1100000 0 (10 : Int)) 101 (fun i' : Int => if i' < (4000 : Int) then (S 96 i') else (0 : Int))) 1065 0 (101 : Int)) 97 (S 1059 0) p1) 98 (S 1059 0) p2) 99 (S 1059 0) p3) 100 (S 1059 0) p4) 101 (S 1059 0) (S 1060 0)) := sm_upI ok83 sm_r101 k85
    have md87 : sv_mod [1059, 1060, 1100000, 1061, 1062, 1063, 1064, 1065, 34, 35, 36, 37, 38, 92, 93, 94, 95, 96, 97, 98, 99, 100, 101, 1100037, 1100038, 1100039, 1100040, 1100041] S (sv_up (sv_up (sv_up (sv_up (sv_up (sv_up (sv_row (sv_up (sv_up (sv_row (sv_up (sv_up (sv_row (sv_up (sv_up (sv_row (sv_up (sv_up (sv_row (sv_up S 1100000 0 (6 : Int)) 97 (fun i' : Int => if i' < (4000 : Int) then (S 92 i') else (0 : Int))) 1061 0 (97 : Int)) 1100000 0 (7 : Int)) 98 (fun i' : Int => if i' < (4000 : Int) then (S 93 i') else (0 : Int))) 1062 0 (98 : Int)) 1100000 0 (8 : Int)) 99 (fun i' : Int => if i' < (4000 : Int) then (S 94 i') else (0 : Int))) 1063 0 (99 : Int)) 1100000 0 (9 : Int)) 100 (fun i' : Int => if i' < (4000 : Int) then (S 95 i') else (0 : Int))) 1064 0 (100 : Int)) 1100000 0 (10 : Int)) 101 (fun i' : Int => if i' < (4000 : Int) then (S 96 i') else (0 : Int))) 1065 0 (101 : Int)) 97 (S 1059 0) p1) 98 (S 1059 0) p2) 99 (S 1059 0) p3) 100 (S 1059 0) p4) 101 (S 1059 0) (S 1060 0)) := sv_mod.up md84 (by decide)
    refine sv_aload_n hM dX12_wrapIn_121 rfl rfl ?_
    refine sv_aload_n hM dX12_wrapIn_122 rfl rfl ?_
    refine sv_getI hM dX12_wrapIn_123 sm_fl_637 (sm_a0 _) sm_k59 rfl (x := (S 1059 0)) rfl ?_
    refine sv_putI sm_X hM dX12_wrapIn_126 sm_fp_634 (sm_a0 _) sm_q60 (Or.inl rfl) rfl rfl rfl rfl ?_
    have ok88 : sm_ok (sv_up (sv_up (sv_up (sv_up (sv_up (sv_up (sv_up (sv_row (sv_up (sv_up (sv_row (sv_up (sv_up (sv_row (sv_up (sv_up (sv_row (sv_up (sv_up (sv_row (sv_up S 1100000 0 (6 : Int)) 97 (fun i' : Int => if i' < (4000 : Int) then (S 92 i') else (0 : Int))) 1061 0 (97 : Int)) 1100000 0 (7 : Int)) 98 (fun i' : Int => if i' < (4000 : Int) then (S 93 i') else (0 : Int))) 1062 0 (98 : Int)) 1100000 0 (8 : Int)) 99 (fun i' : Int => if i' < (4000 : Int) then (S 94 i') else (0 : Int))) 1063 0 (99 : Int)) 1100000 0 (9 : Int)) 100 (fun i' : Int => if i' < (4000 : Int) then (S 95 i') else (0 : Int))) 1064 0 (100 : Int)) 1100000 0 (10 : Int)) 101 (fun i' : Int => if i' < (4000 : Int) then (S 96 i') else (0 : Int))) 1065 0 (101 : Int)) 97 (S 1059 0) p1) 98 (S 1059 0) p2) 99 (S 1059 0) p3) 100 (S 1059 0) p4) 101 (S 1059 0) (S 1060 0)) 1060 0 (S 1059 0)) := sm_upI ok86 sm_r1060 k1
    have md89 : sv_mod [1059, 1060, 1100000, 1061, 1062, 1063, 1064, 1065, 34, 35, 36, 37, 38, 92, 93, 94, 95, 96, 97, 98, 99, 100, 101, 1100037, 1100038, 1100039, 1100040, 1100041] S (sv_up (sv_up (sv_up (sv_up (sv_up (sv_up (sv_up (sv_row (sv_up (sv_up (sv_row (sv_up (sv_up (sv_row (sv_up (sv_up (sv_row (sv_up (sv_up (sv_row (sv_up S 1100000 0 (6 : Int)) 97 (fun i' : Int => if i' < (4000 : Int) then (S 92 i') else (0 : Int))) 1061 0 (97 : Int)) 1100000 0 (7 : Int)) 98 (fun i' : Int => if i' < (4000 : Int) then (S 93 i') else (0 : Int))) 1062 0 (98 : Int)) 1100000 0 (8 : Int)) 99 (fun i' : Int => if i' < (4000 : Int) then (S 94 i') else (0 : Int))) 1063 0 (99 : Int)) 1100000 0 (9 : Int)) 100 (fun i' : Int => if i' < (4000 : Int) then (S 95 i') else (0 : Int))) 1064 0 (100 : Int)) 1100000 0 (10 : Int)) 101 (fun i' : Int => if i' < (4000 : Int) then (S 96 i') else (0 : Int))) 1065 0 (101 : Int)) 97 (S 1059 0) p1) 98 (S 1059 0) p2) 99 (S 1059 0) p3) 100 (S 1059 0) p4) 101 (S 1059 0) (S 1060 0)) 1060 0 (S 1059 0)) := sv_mod.up md87 (by decide)
    refine sv_aload_n hM dX12_wrapIn_129 rfl rfl ?_
    refine sv_dupA hM dX12_wrapIn_130 rfl ?_
    refine sv_getI hM dX12_wrapIn_131 sm_fl_637 (sm_a0 _) sm_k59 rfl (x := (S 1059 0)) rfl ?_
    refine sv_iconst (d := (1 : Int)) hM dX12_wrapIn_134 rfl rfl ?_
    refine sv_iadd hM dX12_wrapIn_135 rfl ?_
    obtain ⟨o90, h⟩ := h
    refine sv_putI sm_X hM dX12_wrapIn_136 sm_fp_637 (sm_a0 _) sm_q59 (Or.inl rfl) rfl rfl rfl rfl ?_
    have ok91 : sm_ok (sv_up (sv_up (sv_up (sv_up (sv_up (sv_up (sv_up (sv_up (sv_row (sv_up (sv_up (sv_row (sv_up (sv_up (sv_row (sv_up (sv_up (sv_row (sv_up (sv_up (sv_row (sv_up S 1100000 0 (6 : Int)) 97 (fun i' : Int => if i' < (4000 : Int) then (S 92 i') else (0 : Int))) 1061 0 (97 : Int)) 1100000 0 (7 : Int)) 98 (fun i' : Int => if i' < (4000 : Int) then (S 93 i') else (0 : Int))) 1062 0 (98 : Int)) 1100000 0 (8 : Int)) 99 (fun i' : Int => if i' < (4000 : Int) then (S 94 i') else (0 : Int))) 1063 0 (99 : Int)) 1100000 0 (9 : Int)) 100 (fun i' : Int => if i' < (4000 : Int) then (S 95 i') else (0 : Int))) 1064 0 (100 : Int)) 1100000 0 (10 : Int)) 101 (fun i' : Int => if i' < (4000 : Int) then (S 96 i') else (0 : Int))) 1065 0 (101 : Int)) 97 (S 1059 0) p1) 98 (S 1059 0) p2) 99 (S 1059 0) p3) 100 (S 1059 0) p4) 101 (S 1059 0) (S 1060 0)) 1060 0 (S 1059 0)) 1059 0 ((S 1059 0) + (1 : Int))) := sm_upI ok88 sm_r1059 o90
    have md92 : sv_mod [1059, 1060, 1100000, 1061, 1062, 1063, 1064, 1065, 34, 35, 36, 37, 38, 92, 93, 94, 95, 96, 97, 98, 99, 100, 101, 1100037, 1100038, 1100039, 1100040, 1100041] S (sv_up (sv_up (sv_up (sv_up (sv_up (sv_up (sv_up (sv_up (sv_row (sv_up (sv_up (sv_row (sv_up (sv_up (sv_row (sv_up (sv_up (sv_row (sv_up (sv_up (sv_row (sv_up S 1100000 0 (6 : Int)) 97 (fun i' : Int => if i' < (4000 : Int) then (S 92 i') else (0 : Int))) 1061 0 (97 : Int)) 1100000 0 (7 : Int)) 98 (fun i' : Int => if i' < (4000 : Int) then (S 93 i') else (0 : Int))) 1062 0 (98 : Int)) 1100000 0 (8 : Int)) 99 (fun i' : Int => if i' < (4000 : Int) then (S 94 i') else (0 : Int))) 1063 0 (99 : Int)) 1100000 0 (9 : Int)) 100 (fun i' : Int => if i' < (4000 : Int) then (S 95 i') else (0 : Int))) 1064 0 (100 : Int)) 1100000 0 (10 : Int)) 101 (fun i' : Int => if i' < (4000 : Int) then (S 96 i') else (0 : Int))) 1065 0 (101 : Int)) 97 (S 1059 0) p1) 98 (S 1059 0) p2) 99 (S 1059 0) p3) 100 (S 1059 0) p4) 101 (S 1059 0) (S 1060 0)) 1060 0 (S 1059 0)) 1059 0 ((S 1059 0) + (1 : Int))) := sv_mod.up md89 (by decide)
    obtain ⟨o93, h⟩ := h
    refine sv_ghost sm_X 1100037 (((S 1059 0) + (1 : Int)) - 1) (p1) (by decide) ?_
    have ok94 : sm_ok (sv_up (sv_up (sv_up (sv_up (sv_up (sv_up (sv_up (sv_up (sv_up (sv_row (sv_up (sv_up (sv_row (sv_up (sv_up (sv_row (sv_up (sv_up (sv_row (sv_up (sv_up (sv_row (sv_up S 1100000 0 (6 : Int)) 97 (fun i' : Int => if i' < (4000 : Int) then (S 92 i') else (0 : Int))) 1061 0 (97 : Int)) 1100000 0 (7 : Int)) 98 (fun i' : Int => if i' < (4000 : Int) then (S 93 i') else (0 : Int))) 1062 0 (98 : Int)) 1100000 0 (8 : Int)) 99 (fun i' : Int => if i' < (4000 : Int) then (S 94 i') else (0 : Int))) 1063 0 (99 : Int)) 1100000 0 (9 : Int)) 100 (fun i' : Int => if i' < (4000 : Int) then (S 95 i') else (0 : Int))) 1064 0 (100 : Int)) 1100000 0 (10 : Int)) 101 (fun i' : Int => if i' < (4000 : Int) then (S 96 i') else (0 : Int))) 1065 0 (101 : Int)) 97 (S 1059 0) p1) 98 (S 1059 0) p2) 99 (S 1059 0) p3) 100 (S 1059 0) p4) 101 (S 1059 0) (S 1060 0)) 1060 0 (S 1059 0)) 1059 0 ((S 1059 0) + (1 : Int))) 1100037 (((S 1059 0) + (1 : Int)) - 1) (p1)) := sm_upI ok91 sm_r1100037 o93
    have md95 : sv_mod [1059, 1060, 1100000, 1061, 1062, 1063, 1064, 1065, 34, 35, 36, 37, 38, 92, 93, 94, 95, 96, 97, 98, 99, 100, 101, 1100037, 1100038, 1100039, 1100040, 1100041] S (sv_up (sv_up (sv_up (sv_up (sv_up (sv_up (sv_up (sv_up (sv_up (sv_row (sv_up (sv_up (sv_row (sv_up (sv_up (sv_row (sv_up (sv_up (sv_row (sv_up (sv_up (sv_row (sv_up S 1100000 0 (6 : Int)) 97 (fun i' : Int => if i' < (4000 : Int) then (S 92 i') else (0 : Int))) 1061 0 (97 : Int)) 1100000 0 (7 : Int)) 98 (fun i' : Int => if i' < (4000 : Int) then (S 93 i') else (0 : Int))) 1062 0 (98 : Int)) 1100000 0 (8 : Int)) 99 (fun i' : Int => if i' < (4000 : Int) then (S 94 i') else (0 : Int))) 1063 0 (99 : Int)) 1100000 0 (9 : Int)) 100 (fun i' : Int => if i' < (4000 : Int) then (S 95 i') else (0 : Int))) 1064 0 (100 : Int)) 1100000 0 (10 : Int)) 101 (fun i' : Int => if i' < (4000 : Int) then (S 96 i') else (0 : Int))) 1065 0 (101 : Int)) 97 (S 1059 0) p1) 98 (S 1059 0) p2) 99 (S 1059 0) p3) 100 (S 1059 0) p4) 101 (S 1059 0) (S 1060 0)) 1060 0 (S 1059 0)) 1059 0 ((S 1059 0) + (1 : Int))) 1100037 (((S 1059 0) + (1 : Int)) - 1) (p1)) := sv_mod.up md92 (by decide)
    obtain ⟨o96, h⟩ := h
    refine sv_ghost sm_X 1100038 (((S 1059 0) + (1 : Int)) - 1) (p2) (by decide) ?_
    have ok97 : sm_ok (sv_up (sv_up (sv_up (sv_up (sv_up (sv_up (sv_up (sv_up (sv_up (sv_up (sv_row (sv_up (sv_up (sv_row (sv_up (sv_up (sv_row (sv_up (sv_up (sv_row (sv_up (sv_up (sv_row (sv_up S 1100000 0 (6 : Int)) 97 (fun i' : Int => if i' < (4000 : Int) then (S 92 i') else (0 : Int))) 1061 0 (97 : Int)) 1100000 0 (7 : Int)) 98 (fun i' : Int => if i' < (4000 : Int) then (S 93 i') else (0 : Int))) 1062 0 (98 : Int)) 1100000 0 (8 : Int)) 99 (fun i' : Int => if i' < (4000 : Int) then (S 94 i') else (0 : Int))) 1063 0 (99 : Int)) 1100000 0 (9 : Int)) 100 (fun i' : Int => if i' < (4000 : Int) then (S 95 i') else (0 : Int))) 1064 0 (100 : Int)) 1100000 0 (10 : Int)) 101 (fun i' : Int => if i' < (4000 : Int) then (S 96 i') else (0 : Int))) 1065 0 (101 : Int)) 97 (S 1059 0) p1) 98 (S 1059 0) p2) 99 (S 1059 0) p3) 100 (S 1059 0) p4) 101 (S 1059 0) (S 1060 0)) 1060 0 (S 1059 0)) 1059 0 ((S 1059 0) + (1 : Int))) 1100037 (((S 1059 0) + (1 : Int)) - 1) (p1)) 1100038 (((S 1059 0) + (1 : Int)) - 1) (p2)) := sm_upI ok94 sm_r1100038 o96
    have md98 : sv_mod [1059, 1060, 1100000, 1061, 1062, 1063, 1064, 1065, 34, 35, 36, 37, 38, 92, 93, 94, 95, 96, 97, 98, 99, 100, 101, 1100037, 1100038, 1100039, 1100040, 1100041] S (sv_up (sv_up (sv_up (sv_up (sv_up (sv_up (sv_up (sv_up (sv_up (sv_up (sv_row (sv_up (sv_up (sv_row (sv_up (sv_up (sv_row (sv_up (sv_up (sv_row (sv_up (sv_up (sv_row (sv_up S 1100000 0 (6 : Int)) 97 (fun i' : Int => if i' < (4000 : Int) then (S 92 i') else (0 : Int))) 1061 0 (97 : Int)) 1100000 0 (7 : Int)) 98 (fun i' : Int => if i' < (4000 : Int) then (S 93 i') else (0 : Int))) 1062 0 (98 : Int)) 1100000 0 (8 : Int)) 99 (fun i' : Int => if i' < (4000 : Int) then (S 94 i') else (0 : Int))) 1063 0 (99 : Int)) 1100000 0 (9 : Int)) 100 (fun i' : Int => if i' < (4000 : Int) then (S 95 i') else (0 : Int))) 1064 0 (100 : Int)) 1100000 0 (10 : Int)) 101 (fun i' : Int => if i' < (4000 : Int) then (S 96 i') else (0 : Int))) 1065 0 (101 : Int)) 97 (S 1059 0) p1) 98 (S 1059 0) p2) 99 (S 1059 0) p3) 100 (S 1059 0) p4) 101 (S 1059 0) (S 1060 0)) 1060 0 (S 1059 0)) 1059 0 ((S 1059 0) + (1 : Int))) 1100037 (((S 1059 0) + (1 : Int)) - 1) (p1)) 1100038 (((S 1059 0) + (1 : Int)) - 1) (p2)) := sv_mod.up md95 (by decide)
    obtain ⟨o99, h⟩ := h
    refine sv_ghost sm_X 1100039 (((S 1059 0) + (1 : Int)) - 1) (p3) (by decide) ?_
    have ok100 : sm_ok (sv_up (sv_up (sv_up (sv_up (sv_up (sv_up (sv_up (sv_up (sv_up (sv_up (sv_up (sv_row (sv_up (sv_up (sv_row (sv_up (sv_up (sv_row (sv_up (sv_up (sv_row (sv_up (sv_up (sv_row (sv_up S 1100000 0 (6 : Int)) 97 (fun i' : Int => if i' < (4000 : Int) then (S 92 i') else (0 : Int))) 1061 0 (97 : Int)) 1100000 0 (7 : Int)) 98 (fun i' : Int => if i' < (4000 : Int) then (S 93 i') else (0 : Int))) 1062 0 (98 : Int)) 1100000 0 (8 : Int)) 99 (fun i' : Int => if i' < (4000 : Int) then (S 94 i') else (0 : Int))) 1063 0 (99 : Int)) 1100000 0 (9 : Int)) 100 (fun i' : Int => if i' < (4000 : Int) then (S 95 i') else (0 : Int))) 1064 0 (100 : Int)) 1100000 0 (10 : Int)) 101 (fun i' : Int => if i' < (4000 : Int) then (S 96 i') else (0 : Int))) 1065 0 (101 : Int)) 97 (S 1059 0) p1) 98 (S 1059 0) p2) 99 (S 1059 0) p3) 100 (S 1059 0) p4) 101 (S 1059 0) (S 1060 0)) 1060 0 (S 1059 0)) 1059 0 ((S 1059 0) + (1 : Int))) 1100037 (((S 1059 0) + (1 : Int)) - 1) (p1)) 1100038 (((S 1059 0) + (1 : Int)) - 1) (p2)) 1100039 (((S 1059 0) + (1 : Int)) - 1) (p3)) := sm_upI ok97 sm_r1100039 o99
    have md101 : sv_mod [1059, 1060, 1100000, 1061, 1062, 1063, 1064, 1065, 34, 35, 36, 37, 38, 92, 93, 94, 95, 96, 97, 98, 99, 100, 101, 1100037, 1100038, 1100039, 1100040, 1100041] S (sv_up (sv_up (sv_up (sv_up (sv_up (sv_up (sv_up (sv_up (sv_up (sv_up (sv_up (sv_row (sv_up (sv_up (sv_row (sv_up (sv_up (sv_row (sv_up (sv_up (sv_row (sv_up (sv_up (sv_row (sv_up S 1100000 0 (6 : Int)) 97 (fun i' : Int => if i' < (4000 : Int) then (S 92 i') else (0 : Int))) 1061 0 (97 : Int)) 1100000 0 (7 : Int)) 98 (fun i' : Int => if i' < (4000 : Int) then (S 93 i') else (0 : Int))) 1062 0 (98 : Int)) 1100000 0 (8 : Int)) 99 (fun i' : Int => if i' < (4000 : Int) then (S 94 i') else (0 : Int))) 1063 0 (99 : Int)) 1100000 0 (9 : Int)) 100 (fun i' : Int => if i' < (4000 : Int) then (S 95 i') else (0 : Int))) 1064 0 (100 : Int)) 1100000 0 (10 : Int)) 101 (fun i' : Int => if i' < (4000 : Int) then (S 96 i') else (0 : Int))) 1065 0 (101 : Int)) 97 (S 1059 0) p1) 98 (S 1059 0) p2) 99 (S 1059 0) p3) 100 (S 1059 0) p4) 101 (S 1059 0) (S 1060 0)) 1060 0 (S 1059 0)) 1059 0 ((S 1059 0) + (1 : Int))) 1100037 (((S 1059 0) + (1 : Int)) - 1) (p1)) 1100038 (((S 1059 0) + (1 : Int)) - 1) (p2)) 1100039 (((S 1059 0) + (1 : Int)) - 1) (p3)) := sv_mod.up md98 (by decide)
    obtain ⟨o102, h⟩ := h
    refine sv_ghost sm_X 1100040 (((S 1059 0) + (1 : Int)) - 1) (p4) (by decide) ?_
    have ok103 : sm_ok (sv_up (sv_up (sv_up (sv_up (sv_up (sv_up (sv_up (sv_up (sv_up (sv_up (sv_up (sv_up (sv_row (sv_up (sv_up (sv_row (sv_up (sv_up (sv_row (sv_up (sv_up (sv_row (sv_up (sv_up (sv_row (sv_up S 1100000 0 (6 : Int)) 97 (fun i' : Int => if i' < (4000 : Int) then (S 92 i') else (0 : Int))) 1061 0 (97 : Int)) 1100000 0 (7 : Int)) 98 (fun i' : Int => if i' < (4000 : Int) then (S 93 i') else (0 : Int))) 1062 0 (98 : Int)) 1100000 0 (8 : Int)) 99 (fun i' : Int => if i' < (4000 : Int) then (S 94 i') else (0 : Int))) 1063 0 (99 : Int)) 1100000 0 (9 : Int)) 100 (fun i' : Int => if i' < (4000 : Int) then (S 95 i') else (0 : Int))) 1064 0 (100 : Int)) 1100000 0 (10 : Int)) 101 (fun i' : Int => if i' < (4000 : Int) then (S 96 i') else (0 : Int))) 1065 0 (101 : Int)) 97 (S 1059 0) p1) 98 (S 1059 0) p2) 99 (S 1059 0) p3) 100 (S 1059 0) p4) 101 (S 1059 0) (S 1060 0)) 1060 0 (S 1059 0)) 1059 0 ((S 1059 0) + (1 : Int))) 1100037 (((S 1059 0) + (1 : Int)) - 1) (p1)) 1100038 (((S 1059 0) + (1 : Int)) - 1) (p2)) 1100039 (((S 1059 0) + (1 : Int)) - 1) (p3)) 1100040 (((S 1059 0) + (1 : Int)) - 1) (p4)) := sm_upI ok100 sm_r1100040 o102
    have md104 : sv_mod [1059, 1060, 1100000, 1061, 1062, 1063, 1064, 1065, 34, 35, 36, 37, 38, 92, 93, 94, 95, 96, 97, 98, 99, 100, 101, 1100037, 1100038, 1100039, 1100040, 1100041] S (sv_up (sv_up (sv_up (sv_up (sv_up (sv_up (sv_up (sv_up (sv_up (sv_up (sv_up (sv_up (sv_row (sv_up (sv_up (sv_row (sv_up (sv_up (sv_row (sv_up (sv_up (sv_row (sv_up (sv_up (sv_row (sv_up S 1100000 0 (6 : Int)) 97 (fun i' : Int => if i' < (4000 : Int) then (S 92 i') else (0 : Int))) 1061 0 (97 : Int)) 1100000 0 (7 : Int)) 98 (fun i' : Int => if i' < (4000 : Int) then (S 93 i') else (0 : Int))) 1062 0 (98 : Int)) 1100000 0 (8 : Int)) 99 (fun i' : Int => if i' < (4000 : Int) then (S 94 i') else (0 : Int))) 1063 0 (99 : Int)) 1100000 0 (9 : Int)) 100 (fun i' : Int => if i' < (4000 : Int) then (S 95 i') else (0 : Int))) 1064 0 (100 : Int)) 1100000 0 (10 : Int)) 101 (fun i' : Int => if i' < (4000 : Int) then (S 96 i') else (0 : Int))) 1065 0 (101 : Int)) 97 (S 1059 0) p1) 98 (S 1059 0) p2) 99 (S 1059 0) p3) 100 (S 1059 0) p4) 101 (S 1059 0) (S 1060 0)) 1060 0 (S 1059 0)) 1059 0 ((S 1059 0) + (1 : Int))) 1100037 (((S 1059 0) + (1 : Int)) - 1) (p1)) 1100038 (((S 1059 0) + (1 : Int)) - 1) (p2)) 1100039 (((S 1059 0) + (1 : Int)) - 1) (p3)) 1100040 (((S 1059 0) + (1 : Int)) - 1) (p4)) := sv_mod.up md101 (by decide)
    obtain ⟨o105, h⟩ := h
    refine sv_ghost sm_X 1100041 (((S 1059 0) + (1 : Int)) - 1) (((S 1060 0))) (by decide) ?_
    have ok106 : sm_ok (sv_up (sv_up (sv_up (sv_up (sv_up (sv_up (sv_up (sv_up (sv_up (sv_up (sv_up (sv_up (sv_up (sv_row (sv_up (sv_up (sv_row (sv_up (sv_up (sv_row (sv_up (sv_up (sv_row (sv_up (sv_up (sv_row (sv_up S 1100000 0 (6 : Int)) 97 (fun i' : Int => if i' < (4000 : Int) then (S 92 i') else (0 : Int))) 1061 0 (97 : Int)) 1100000 0 (7 : Int)) 98 (fun i' : Int => if i' < (4000 : Int) then (S 93 i') else (0 : Int))) 1062 0 (98 : Int)) 1100000 0 (8 : Int)) 99 (fun i' : Int => if i' < (4000 : Int) then (S 94 i') else (0 : Int))) 1063 0 (99 : Int)) 1100000 0 (9 : Int)) 100 (fun i' : Int => if i' < (4000 : Int) then (S 95 i') else (0 : Int))) 1064 0 (100 : Int)) 1100000 0 (10 : Int)) 101 (fun i' : Int => if i' < (4000 : Int) then (S 96 i') else (0 : Int))) 1065 0 (101 : Int)) 97 (S 1059 0) p1) 98 (S 1059 0) p2) 99 (S 1059 0) p3) 100 (S 1059 0) p4) 101 (S 1059 0) (S 1060 0)) 1060 0 (S 1059 0)) 1059 0 ((S 1059 0) + (1 : Int))) 1100037 (((S 1059 0) + (1 : Int)) - 1) (p1)) 1100038 (((S 1059 0) + (1 : Int)) - 1) (p2)) 1100039 (((S 1059 0) + (1 : Int)) - 1) (p3)) 1100040 (((S 1059 0) + (1 : Int)) - 1) (p4)) 1100041 (((S 1059 0) + (1 : Int)) - 1) (((S 1060 0)))) := sm_upI ok103 sm_r1100041 o105
    have md107 : sv_mod [1059, 1060, 1100000, 1061, 1062, 1063, 1064, 1065, 34, 35, 36, 37, 38, 92, 93, 94, 95, 96, 97, 98, 99, 100, 101, 1100037, 1100038, 1100039, 1100040, 1100041] S (sv_up (sv_up (sv_up (sv_up (sv_up (sv_up (sv_up (sv_up (sv_up (sv_up (sv_up (sv_up (sv_up (sv_row (sv_up (sv_up (sv_row (sv_up (sv_up (sv_row (sv_up (sv_up (sv_row (sv_up (sv_up (sv_row (sv_up S 1100000 0 (6 : Int)) 97 (fun i' : Int => if i' < (4000 : Int) then (S 92 i') else (0 : Int))) 1061 0 (97 : Int)) 1100000 0 (7 : Int)) 98 (fun i' : Int => if i' < (4000 : Int) then (S 93 i') else (0 : Int))) 1062 0 (98 : Int)) 1100000 0 (8 : Int)) 99 (fun i' : Int => if i' < (4000 : Int) then (S 94 i') else (0 : Int))) 1063 0 (99 : Int)) 1100000 0 (9 : Int)) 100 (fun i' : Int => if i' < (4000 : Int) then (S 95 i') else (0 : Int))) 1064 0 (100 : Int)) 1100000 0 (10 : Int)) 101 (fun i' : Int => if i' < (4000 : Int) then (S 96 i') else (0 : Int))) 1065 0 (101 : Int)) 97 (S 1059 0) p1) 98 (S 1059 0) p2) 99 (S 1059 0) p3) 100 (S 1059 0) p4) 101 (S 1059 0) (S 1060 0)) 1060 0 (S 1059 0)) 1059 0 ((S 1059 0) + (1 : Int))) 1100037 (((S 1059 0) + (1 : Int)) - 1) (p1)) 1100038 (((S 1059 0) + (1 : Int)) - 1) (p2)) 1100039 (((S 1059 0) + (1 : Int)) - 1) (p3)) 1100040 (((S 1059 0) + (1 : Int)) - 1) (p4)) 1100041 (((S 1059 0) + (1 : Int)) - 1) (((S 1060 0)))) := sv_mod.up md104 (by decide)
    have k108 : (((10 : Int) = 5 ∧ (97 : Int) = 92 ∧ (98 : Int) = 93 ∧ (99 : Int) = 94 ∧ (100 : Int) = 95 ∧ (101 : Int) = 96) → (0 ≤ ((S 1059 0) + (1 : Int)) ∧ ((S 1059 0) + (1 : Int)) ≤ 4000) → (∀ i : Int, 0 ≤ i → i < ((S 1059 0) + (1 : Int)) → (S 92 i) = (if i = (((S 1059 0) + (1 : Int)) - 1) then (p1) else (S 1100037 i)) ∧ (S 93 i) = (if i = (((S 1059 0) + (1 : Int)) - 1) then (p2) else (S 1100038 i)) ∧ (S 94 i) = (if i = (((S 1059 0) + (1 : Int)) - 1) then (p3) else (S 1100039 i)) ∧ (S 95 i) = (if i = (((S 1059 0) + (1 : Int)) - 1) then (p4) else (S 1100040 i)) ∧ (S 96 i) = (if i = (((S 1059 0) + (1 : Int)) - 1) then (((S 1060 0))) else (S 1100041 i))) → sm_DY (97 : Int) (98 : Int) (99 : Int) (100 : Int) (101 : Int) (10 : Int) ((S 1059 0) + (1 : Int)) (S 34) (S 35) (S 36) (S 37) (S 38) (S 92) (S 93) (S 94) (S 95) (S 96) (fun i' : Int => if i' = (S 1059 0) then p1 else (fun i' : Int => if i' < (4000 : Int) then (S 92 i') else (0 : Int)) i') (fun i' : Int => if i' = (S 1059 0) then p2 else (fun i' : Int => if i' < (4000 : Int) then (S 93 i') else (0 : Int)) i') (fun i' : Int => if i' = (S 1059 0) then p3 else (fun i' : Int => if i' < (4000 : Int) then (S 94 i') else (0 : Int)) i') (fun i' : Int => if i' = (S 1059 0) then p4 else (fun i' : Int => if i' < (4000 : Int) then (S 95 i') else (0 : Int)) i') (fun i' : Int => if i' = (S 1059 0) then (S 1060 0) else (fun i' : Int => if i' < (4000 : Int) then (S 96 i') else (0 : Int)) i') (fun i' : Int => if i' = (((S 1059 0) + (1 : Int)) - 1) then (p1) else (S 1100037) i') (fun i' : Int => if i' = (((S 1059 0) + (1 : Int)) - 1) then (p2) else (S 1100038) i') (fun i' : Int => if i' = (((S 1059 0) + (1 : Int)) - 1) then (p3) else (S 1100039) i') (fun i' : Int => if i' = (((S 1059 0) + (1 : Int)) - 1) then (p4) else (S 1100040) i') (fun i' : Int => if i' = (((S 1059 0) + (1 : Int)) - 1) then (((S 1060 0))) else (S 1100041) i')) := fun a b c => sm_DY_5 a b c
    have h := h k108
    have k109 : (((10 : Int) = 10 ∧ (97 : Int) = 97 ∧ (98 : Int) = 98 ∧ (99 : Int) = 99 ∧ (100 : Int) = 100 ∧ (101 : Int) = 101) → (0 ≤ ((S 1059 0) + (1 : Int)) ∧ ((S 1059 0) + (1 : Int)) ≤ 8000) → (∀ i : Int, 0 ≤ i → i < ((S 1059 0) + (1 : Int)) → (if i = (S 1059 0) then p1 else (if i < (4000 : Int) then (S 92 i) else (0 : Int))) = (if i = (((S 1059 0) + (1 : Int)) - 1) then (p1) else (S 1100037 i)) ∧ (if i = (S 1059 0) then p2 else (if i < (4000 : Int) then (S 93 i) else (0 : Int))) = (if i = (((S 1059 0) + (1 : Int)) - 1) then (p2) else (S 1100038 i)) ∧ (if i = (S 1059 0) then p3 else (if i < (4000 : Int) then (S 94 i) else (0 : Int))) = (if i = (((S 1059 0) + (1 : Int)) - 1) then (p3) else (S 1100039 i)) ∧ (if i = (S 1059 0) then p4 else (if i < (4000 : Int) then (S 95 i) else (0 : Int))) = (if i = (((S 1059 0) + (1 : Int)) - 1) then (p4) else (S 1100040 i)) ∧ (if i = (S 1059 0) then (S 1060 0) else (if i < (4000 : Int) then (S 96 i) else (0 : Int))) = (if i = (((S 1059 0) + (1 : Int)) - 1) then (((S 1060 0))) else (S 1100041 i))) → sm_DY (97 : Int) (98 : Int) (99 : Int) (100 : Int) (101 : Int) (10 : Int) ((S 1059 0) + (1 : Int)) (S 34) (S 35) (S 36) (S 37) (S 38) (S 92) (S 93) (S 94) (S 95) (S 96) (fun i' : Int => if i' = (S 1059 0) then p1 else (fun i' : Int => if i' < (4000 : Int) then (S 92 i') else (0 : Int)) i') (fun i' : Int => if i' = (S 1059 0) then p2 else (fun i' : Int => if i' < (4000 : Int) then (S 93 i') else (0 : Int)) i') (fun i' : Int => if i' = (S 1059 0) then p3 else (fun i' : Int => if i' < (4000 : Int) then (S 94 i') else (0 : Int)) i') (fun i' : Int => if i' = (S 1059 0) then p4 else (fun i' : Int => if i' < (4000 : Int) then (S 95 i') else (0 : Int)) i') (fun i' : Int => if i' = (S 1059 0) then (S 1060 0) else (fun i' : Int => if i' < (4000 : Int) then (S 96 i') else (0 : Int)) i') (fun i' : Int => if i' = (((S 1059 0) + (1 : Int)) - 1) then (p1) else (S 1100037) i') (fun i' : Int => if i' = (((S 1059 0) + (1 : Int)) - 1) then (p2) else (S 1100038) i') (fun i' : Int => if i' = (((S 1059 0) + (1 : Int)) - 1) then (p3) else (S 1100039) i') (fun i' : Int => if i' = (((S 1059 0) + (1 : Int)) - 1) then (p4) else (S 1100040) i') (fun i' : Int => if i' = (((S 1059 0) + (1 : Int)) - 1) then (((S 1060 0))) else (S 1100041) i')) := fun a b c => sm_DY_10 a b c
    have h := h k109
    exact sv_vret hM dX12_wrapIn_139 rfl ⟨rfl, ok106, md107, h⟩
def q_wrapIn10 (p1 : Int) (p2 : Int) (p3 : Int) (p4 : Int) (S : sv_S) : Option Value → sv_S → Prop := fun v S' => v = none ∧ sm_ok S' ∧ sv_mod [1059, 1060, 1100000, 1061, 1062, 1063, 1064, 1065, 34, 35, 36, 37, 38, 92, 93, 94, 95, 96, 97, 98, 99, 100, 101, 1100037, 1100038, 1100039, 1100040, 1100041] S S' ∧ ((S' 1059 0) = (S 1059 0) + 1 ∧ (S' 1060 0) = (S 1059 0) ∧ sm_DY (S' 1061 0) (S' 1062 0) (S' 1063 0) (S' 1064 0) (S' 1065 0) (S' 1100000 0) (S' 1059 0) (S' 34) (S' 35) (S' 36) (S' 37) (S' 38) (S' 92) (S' 93) (S' 94) (S' 95) (S' 96) (S' 97) (S' 98) (S' 99) (S' 100) (S' 101) (S' 1100037) (S' 1100038) (S' 1100039) (S' 1100040) (S' 1100041) ∧ sm_F1 (S 1100037) (S' 1100037) (S 1059 0) ∧ sm_F1 (S 1100038) (S' 1100038) (S 1059 0) ∧ sm_F1 (S 1100039) (S' 1100039) (S 1059 0) ∧ sm_F1 (S 1100040) (S' 1100040) (S 1059 0) ∧ sm_F1 (S 1100041) (S' 1100041) (S 1059 0) ∧ (S' 1100037 ((S' 1059 0) - 1)) = p1 ∧ (S' 1100038 ((S' 1059 0) - 1)) = p2 ∧ (S' 1100039 ((S' 1059 0) - 1)) = p3 ∧ (S' 1100040 ((S' 1059 0) - 1)) = p4 ∧ (S' 1100041 ((S' 1059 0) - 1)) = (S 1060 0))
theorem la_wrapIn10_0 {x0 : Int} (h0 : x0 ≤ 8000) (h1 : ¬ x0 = 8000) : x0 < 8000 := by omega
theorem la_wrapIn10_1 {x0 : Int} (h0 : 0 ≤ x0) (h1 : x0 < 8000) : 0 ≤ x0 ∧ x0 < 8000 := by omega
theorem la_wrapIn10_2 {x0 : Int} (h0 : 0 ≤ x0) (h1 : x0 < 8000) : sv_R (x0 + 1) := by omega
theorem la_wrapIn10_3 {x0 x1 x2 x3 x4 x5 : Int} (h0 : x0 = 10) (h1 : x1 = 97) (h2 : x2 = 98) (h3 : x3 = 99) (h4 : x4 = 100) (h5 : x5 = 101) : x0 = 10 ∧ x1 = 97 ∧ x2 = 98 ∧ x3 = 99 ∧ x4 = 100 ∧ x5 = 101 := by omega
theorem la_wrapIn10_4 {x0 : Int} (h0 : 0 ≤ x0) (h1 : x0 < 8000) : 0 ≤ x0 + 1 ∧ x0 + 1 ≤ 8000 := by omega
theorem la_wrapIn10_5 {x0 x1 : Int} (h0 : x0 < x1 + 1) (h1 : x0 = x1) : x0 = x1 + 1 - 1 := by omega
theorem la_wrapIn10_6 {x0 x1 : Int} (h0 : x0 = x1) : ¬ x0 < x1 := by omega
theorem la_wrapIn10_7 {x0 x1 x2 : Int} (h0 : x0 = x1) (h1 : x2 = x1) : x2 = x0 := by omega
theorem la_wrapIn10_8 {x0 x1 : Int} (h0 : x0 < x1 + 1) : x0 ≤ x1 := by omega
theorem la_wrapIn10_9 {x0 x1 : Int} (h0 : x0 ≤ x1) (h1 : ¬ x0 = x1) : x0 < x1 := by omega
theorem la_wrapIn10_10 {x0 x1 : Int} (h0 : x0 < x1) : ¬ x0 = x1 + 1 - 1 := by omega
theorem la_wrapIn10_11 {x0 x1 x2 x3 : Int} (h0 : x0 = x1) (h1 : x2 = x3) (h2 : x1 = x3) : x0 = x2 := by omega
theorem la_wrapIn10_12 {x0 x1 x2 : Int} (h0 : x0 = x1) (h1 : x2 = x1) : x0 = x2 := by omega
theorem la_wrapIn10_13 {x0 x1 : Int} (h0 : x0 = x1) : x0 = x1 + 1 - 1 := by omega
theorem la_wrapIn10_14 {x0 : Int} : x0 + 1 = x0 + 1 := by omega
theorem la_wrapIn10_15 {x0 : Int} : x0 = x0 := by omega
theorem la_wrapIn10_16 {x0 : Int} : x0 ≤ x0 + 1 - 1 := by omega
theorem la_wrapIn10_17 {x0 : Int} (h0 : 0 ≤ x0) : 0 ≤ x0 + 1 - 1 := by omega
theorem la_wrapIn10_18 {x0 : Int} : x0 + 1 - 1 = x0 + 1 - 1 := by omega
theorem la_wrapIn10_19 {x0 : Int} : ¬ x0 + 1 - 1 < x0 := by omega
theorem la_wrapIn10_20 {x0 : Int} (h0 : x0 < 8000) (h1 : ¬ ¬ x0 = 8000) : False := by omega
set_option maxHeartbeats 8000000 in
theorem f_wrapIn10 : ∀ (p1 : Int) (p2 : Int) (p3 : Int) (p4 : Int) (S : sv_S), sm_ok S → sv_R p1 → sv_R p2 → sv_R p3 → sv_R p4 → ((S 1100000 0) = 10 ∧ (S 1061 0) = 97 ∧ (S 1062 0) = 98 ∧ (S 1063 0) = 99 ∧ (S 1064 0) = 100 ∧ (S 1065 0) = 101 ∧ 0 ≤ (S 1059 0) ∧ (S 1059 0) ≤ 8000 ∧ (S 1059 0) < 8000 ∧ -1 ≤ (S 1060 0) ∧ (S 1060 0) < (S 1059 0) ∧ (∀ i : Int, 0 ≤ i → i < (S 1059 0) → (S 97 i) = (S 1100037 i) ∧ (S 98 i) = (S 1100038 i) ∧ (S 99 i) = (S 1100039 i) ∧ (S 100 i) = (S 1100040 i) ∧ (S 101 i) = (S 1100041 i))) → (sv_R (S 1059 0) → ((S 1061 0) = (97 : Int)) ∧ ((S 1100000 0) = (10 : Int)) ∧ (((¬ (S 1059 0) = (8000 : Int)) → (0 ≤ (S 1059 0) ∧ (S 1059 0) < 8000) ∧ ((S 1062 0) = (98 : Int)) ∧ ((S 1063 0) = (99 : Int)) ∧ ((S 1064 0) = (100 : Int)) ∧ ((S 1065 0) = (101 : Int)) ∧ (sv_R (S 1060 0) → (sv_R ((S 1059 0) + (1 : Int))) ∧ (sv_R (p1)) ∧ (sv_R (p2)) ∧ (sv_R (p3)) ∧ (sv_R (p4)) ∧ (sv_R (((S 1060 0)))) ∧ ((((S 1100000 0) = 10 ∧ (S 1061 0) = 97 ∧ (S 1062 0) = 98 ∧ (S 1063 0) = 99 ∧ (S 1064 0) = 100 ∧ (S 1065 0) = 101) → (0 ≤ ((S 1059 0) + (1 : Int)) ∧ ((S 1059 0) + (1 : Int)) ≤ 8000) → (∀ i : Int, 0 ≤ i → i < ((S 1059 0) + (1 : Int)) → (if i = (S 1059 0) then p1 else (S 97 i)) = (if i = (((S 1059 0) + (1 : Int)) - 1) then (p1) else (S 1100037 i)) ∧ (if i = (S 1059 0) then p2 else (S 98 i)) = (if i = (((S 1059 0) + (1 : Int)) - 1) then (p2) else (S 1100038 i)) ∧ (if i = (S 1059 0) then p3 else (S 99 i)) = (if i = (((S 1059 0) + (1 : Int)) - 1) then (p3) else (S 1100039 i)) ∧ (if i = (S 1059 0) then p4 else (S 100 i)) = (if i = (((S 1059 0) + (1 : Int)) - 1) then (p4) else (S 1100040 i)) ∧ (if i = (S 1059 0) then (S 1060 0) else (S 101 i)) = (if i = (((S 1059 0) + (1 : Int)) - 1) then (((S 1060 0))) else (S 1100041 i))) → sm_DY (S 1061 0) (S 1062 0) (S 1063 0) (S 1064 0) (S 1065 0) (S 1100000 0) ((S 1059 0) + (1 : Int)) (S 34) (S 35) (S 36) (S 37) (S 38) (S 92) (S 93) (S 94) (S 95) (S 96) (fun i' : Int => if i' = (S 1059 0) then p1 else (S 97) i') (fun i' : Int => if i' = (S 1059 0) then p2 else (S 98) i') (fun i' : Int => if i' = (S 1059 0) then p3 else (S 99) i') (fun i' : Int => if i' = (S 1059 0) then p4 else (S 100) i') (fun i' : Int => if i' = (S 1059 0) then (S 1060 0) else (S 101) i') (fun i' : Int => if i' = (((S 1059 0) + (1 : Int)) - 1) then (p1) else (S 1100037) i') (fun i' : Int => if i' = (((S 1059 0) + (1 : Int)) - 1) then (p2) else (S 1100038) i') (fun i' : Int => if i' = (((S 1059 0) + (1 : Int)) - 1) then (p3) else (S 1100039) i') (fun i' : Int => if i' = (((S 1059 0) + (1 : Int)) - 1) then (p4) else (S 1100040) i') (fun i' : Int => if i' = (((S 1059 0) + (1 : Int)) - 1) then (((S 1060 0))) else (S 1100041) i')) → (((S 1059 0) + (1 : Int)) = (S 1059 0) + 1 ∧ (S 1059 0) = (S 1059 0) ∧ sm_DY (S 1061 0) (S 1062 0) (S 1063 0) (S 1064 0) (S 1065 0) (S 1100000 0) ((S 1059 0) + (1 : Int)) (S 34) (S 35) (S 36) (S 37) (S 38) (S 92) (S 93) (S 94) (S 95) (S 96) (fun i' : Int => if i' = (S 1059 0) then p1 else (S 97) i') (fun i' : Int => if i' = (S 1059 0) then p2 else (S 98) i') (fun i' : Int => if i' = (S 1059 0) then p3 else (S 99) i') (fun i' : Int => if i' = (S 1059 0) then p4 else (S 100) i') (fun i' : Int => if i' = (S 1059 0) then (S 1060 0) else (S 101) i') (fun i' : Int => if i' = (((S 1059 0) + (1 : Int)) - 1) then (p1) else (S 1100037) i') (fun i' : Int => if i' = (((S 1059 0) + (1 : Int)) - 1) then (p2) else (S 1100038) i') (fun i' : Int => if i' = (((S 1059 0) + (1 : Int)) - 1) then (p3) else (S 1100039) i') (fun i' : Int => if i' = (((S 1059 0) + (1 : Int)) - 1) then (p4) else (S 1100040) i') (fun i' : Int => if i' = (((S 1059 0) + (1 : Int)) - 1) then (((S 1060 0))) else (S 1100041) i') ∧ sm_F1 (S 1100037) (fun i' : Int => if i' = (((S 1059 0) + (1 : Int)) - 1) then (p1) else (S 1100037) i') (S 1059 0) ∧ sm_F1 (S 1100038) (fun i' : Int => if i' = (((S 1059 0) + (1 : Int)) - 1) then (p2) else (S 1100038) i') (S 1059 0) ∧ sm_F1 (S 1100039) (fun i' : Int => if i' = (((S 1059 0) + (1 : Int)) - 1) then (p3) else (S 1100039) i') (S 1059 0) ∧ sm_F1 (S 1100040) (fun i' : Int => if i' = (((S 1059 0) + (1 : Int)) - 1) then (p4) else (S 1100040) i') (S 1059 0) ∧ sm_F1 (S 1100041) (fun i' : Int => if i' = (((S 1059 0) + (1 : Int)) - 1) then (((S 1060 0))) else (S 1100041) i') (S 1059 0) ∧ (if (((S 1059 0) + (1 : Int)) - 1) = (((S 1059 0) + (1 : Int)) - 1) then (p1) else (S 1100037 (((S 1059 0) + (1 : Int)) - 1))) = p1 ∧ (if (((S 1059 0) + (1 : Int)) - 1) = (((S 1059 0) + (1 : Int)) - 1) then (p2) else (S 1100038 (((S 1059 0) + (1 : Int)) - 1))) = p2 ∧ (if (((S 1059 0) + (1 : Int)) - 1) = (((S 1059 0) + (1 : Int)) - 1) then (p3) else (S 1100039 (((S 1059 0) + (1 : Int)) - 1))) = p3 ∧ (if (((S 1059 0) + (1 : Int)) - 1) = (((S 1059 0) + (1 : Int)) - 1) then (p4) else (S 1100040 (((S 1059 0) + (1 : Int)) - 1))) = p4 ∧ (if (((S 1059 0) + (1 : Int)) - 1) = (((S 1059 0) + (1 : Int)) - 1) then (((S 1060 0))) else (S 1100041 (((S 1059 0) + (1 : Int)) - 1))) = (S 1060 0))))) ∧ ((¬ (¬ (S 1059 0) = (8000 : Int))) → ((0 : Int) = 1)))) := by
  intro p1
  intro p2
  intro p3
  intro p4
  intro S
  intro h1_
  intro h2_
  intro h3_
  intro h4_
  intro h5_
  rintro ⟨h6_, ⟨h7_, ⟨h8_, ⟨h9_, ⟨h10_, ⟨h11_, ⟨h12_, ⟨h13_, ⟨h14_, ⟨h15_, ⟨h16_, h17_⟩⟩⟩⟩⟩⟩⟩⟩⟩⟩⟩
  intro h18_
  refine ⟨h7_, ?_⟩
  refine ⟨h6_, ?_⟩
  refine ⟨?_, ?_⟩
  · skip
    intro h19_
    refine ⟨(la_wrapIn10_1 h12_ h14_), ?_⟩
    refine ⟨h8_, ?_⟩
    refine ⟨h9_, ?_⟩
    refine ⟨h10_, ?_⟩
    refine ⟨h11_, ?_⟩
    intro h20_
    refine ⟨(la_wrapIn10_2 h12_ h14_), ?_⟩
    refine ⟨h2_, ?_⟩
    refine ⟨h3_, ?_⟩
    refine ⟨h4_, ?_⟩
    refine ⟨h5_, ?_⟩
    refine ⟨h20_, ?_⟩
    intro h21_
    have h22_ := (h21_ (la_wrapIn10_3 h6_ h7_ h8_ h9_ h10_ h11_))
    have h23_ := (h22_ (la_wrapIn10_4 h12_ h14_))
    have h81_ : (∀ i : Int, 0 ≤ i → i < S 1059 0 + 1 → (if i = S 1059 0 then p1 else S 97 i) = (if i = S 1059 0 + 1 - 1 then p1 else S 1100037 i) ∧ (if i = S 1059 0 then p2 else S 98 i) = (if i = S 1059 0 + 1 - 1 then p2 else S 1100038 i) ∧ (if i = S 1059 0 then p3 else S 99 i) = (if i = S 1059 0 + 1 - 1 then p3 else S 1100039 i) ∧ (if i = S 1059 0 then p4 else S 100 i) = (if i = S 1059 0 + 1 - 1 then p4 else S 1100040 i) ∧ (if i = S 1059 0 then S 1060 0 else S 101 i) = (if i = S 1059 0 + 1 - 1 then S 1060 0 else S 1100041 i)) := by
      intro i
      intro h24_
      intro h25_
      refine ⟨?_, ?_⟩
      · skip
        have h26_ := ((h17_ i) h24_)
        by_cases c27_ : i = S 1059 0
        · skip
          have e28_ : (if i = S 1059 0 + 1 - 1 then p1 else S 1100037 i : Int) = p1 := if_pos (la_wrapIn10_5 h25_ c27_)
          have e29_ : (if i = S 1059 0 then p1 else S 97 i : Int) = p1 := if_pos c27_
          exact (la_wrapIn10_7 e28_ e29_)
        · skip
          have e30_ : (if i = S 1059 0 then p1 else S 97 i : Int) = S 97 i := if_neg c27_
          have e31_ : (if i = S 1059 0 + 1 - 1 then p1 else S 1100037 i : Int) = S 1100037 i := if_neg (la_wrapIn10_10 (la_wrapIn10_9 (la_wrapIn10_8 h25_) c27_))
          obtain ⟨h32_, ⟨h33_, ⟨h34_, ⟨h35_, h36_⟩⟩⟩⟩ := (h26_ (la_wrapIn10_9 (la_wrapIn10_8 h25_) c27_))
          exact (la_wrapIn10_11 e30_ e31_ h32_)
      refine ⟨?_, ?_⟩
      · skip
        have h37_ := ((h17_ i) h24_)
        by_cases c38_ : i = S 1059 0
        · skip
          have e39_ : (if i = S 1059 0 then p2 else S 98 i : Int) = p2 := if_pos c38_
          have e40_ : (if i = S 1059 0 + 1 - 1 then p2 else S 1100038 i : Int) = p2 := if_pos (la_wrapIn10_5 h25_ c38_)
          exact (la_wrapIn10_12 e39_ e40_)
        · skip
          have e41_ : (if i = S 1059 0 then p2 else S 98 i : Int) = S 98 i := if_neg c38_
          have e42_ : (if i = S 1059 0 + 1 - 1 then p2 else S 1100038 i : Int) = S 1100038 i := if_neg (la_wrapIn10_10 (la_wrapIn10_9 (la_wrapIn10_8 h25_) c38_))
          obtain ⟨h43_, ⟨h44_, ⟨h45_, ⟨h46_, h47_⟩⟩⟩⟩ := (h37_ (la_wrapIn10_9 (la_wrapIn10_8 h25_) c38_))
          exact (la_wrapIn10_11 e41_ e42_ h44_)
      refine ⟨?_, ?_⟩
      · skip
        have h48_ := ((h17_ i) h24_)
        by_cases c49_ : i = S 1059 0
        · skip
          have e50_ : (if i = S 1059 0 + 1 - 1 then p3 else S 1100039 i : Int) = p3 := if_pos (la_wrapIn10_5 h25_ c49_)
          have e51_ : (if i = S 1059 0 then p3 else S 99 i : Int) = p3 := if_pos c49_
          exact (la_wrapIn10_7 e50_ e51_)
        · skip
          have e52_ : (if i = S 1059 0 then p3 else S 99 i : Int) = S 99 i := if_neg c49_
          have e53_ : (if i = S 1059 0 + 1 - 1 then p3 else S 1100039 i : Int) = S 1100039 i := if_neg (la_wrapIn10_10 (la_wrapIn10_9 (la_wrapIn10_8 h25_) c49_))
          obtain ⟨h54_, ⟨h55_, ⟨h56_, ⟨h57_, h58_⟩⟩⟩⟩ := (h48_ (la_wrapIn10_9 (la_wrapIn10_8 h25_) c49_))
          exact (la_wrapIn10_11 e52_ e53_ h56_)
      refine ⟨?_, ?_⟩
      · skip
        have h59_ := ((h17_ i) h24_)
        by_cases c60_ : i = S 1059 0
        · skip
          have e61_ : (if i = S 1059 0 + 1 - 1 then p4 else S 1100040 i : Int) = p4 := if_pos (la_wrapIn10_5 h25_ c60_)
          have e62_ : (if i = S 1059 0 then p4 else S 100 i : Int) = p4 := if_pos c60_
          exact (la_wrapIn10_7 e61_ e62_)
        · skip
          have e63_ : (if i = S 1059 0 then p4 else S 100 i : Int) = S 100 i := if_neg c60_
          have e64_ : (if i = S 1059 0 + 1 - 1 then p4 else S 1100040 i : Int) = S 1100040 i := if_neg (la_wrapIn10_10 (la_wrapIn10_9 (la_wrapIn10_8 h25_) c60_))
          obtain ⟨h65_, ⟨h66_, ⟨h67_, ⟨h68_, h69_⟩⟩⟩⟩ := (h59_ (la_wrapIn10_9 (la_wrapIn10_8 h25_) c60_))
          exact (la_wrapIn10_11 e63_ e64_ h68_)
      have h70_ := ((h17_ i) h24_)
      by_cases c71_ : i = S 1059 0
      · skip
        have e72_ : (if i = S 1059 0 then S 1060 0 else S 101 i : Int) = S 1060 0 := if_pos c71_
        have e73_ : (if i = S 1059 0 + 1 - 1 then S 1060 0 else S 1100041 i : Int) = S 1060 0 := if_pos (la_wrapIn10_13 c71_)
        exact (la_wrapIn10_12 e72_ e73_)
      · skip
        have e74_ : (if i = S 1059 0 then S 1060 0 else S 101 i : Int) = S 101 i := if_neg c71_
        have e75_ : (if i = S 1059 0 + 1 - 1 then S 1060 0 else S 1100041 i : Int) = S 1100041 i := if_neg (la_wrapIn10_10 (la_wrapIn10_9 (la_wrapIn10_8 h25_) c71_))
        obtain ⟨h76_, ⟨h77_, ⟨h78_, ⟨h79_, h80_⟩⟩⟩⟩ := (h70_ (la_wrapIn10_9 (la_wrapIn10_8 h25_) c71_))
        exact (la_wrapIn10_11 e74_ e75_ h80_)
    have h82_ := (h23_ h81_)
    refine ⟨la_wrapIn10_14, ?_⟩
    refine ⟨la_wrapIn10_15, ?_⟩
    refine ⟨h82_, ?_⟩
    refine ⟨(sm_F1_up sm_F1_rf la_wrapIn10_16), ?_⟩
    refine ⟨(sm_F1_up sm_F1_rf la_wrapIn10_16), ?_⟩
    refine ⟨(sm_F1_up sm_F1_rf la_wrapIn10_16), ?_⟩
    refine ⟨(sm_F1_up sm_F1_rf la_wrapIn10_16), ?_⟩
    refine ⟨(sm_F1_up sm_F1_rf la_wrapIn10_16), ?_⟩
    refine ⟨?_, ?_⟩
    · skip
      have h83_ := ((h17_ (S 1059 0 + 1 - 1)) (la_wrapIn10_17 h12_))
      have e84_ : (if S 1059 0 + 1 - 1 = S 1059 0 + 1 - 1 then p1 else S 1100037 (S 1059 0 + 1 - 1) : Int) = p1 := if_pos la_wrapIn10_18
      exact e84_
    refine ⟨?_, ?_⟩
    · skip
      have h85_ := ((h17_ (S 1059 0 + 1 - 1)) (la_wrapIn10_17 h12_))
      have e86_ : (if S 1059 0 + 1 - 1 = S 1059 0 + 1 - 1 then p2 else S 1100038 (S 1059 0 + 1 - 1) : Int) = p2 := if_pos la_wrapIn10_18
      exact e86_
    refine ⟨?_, ?_⟩
    · skip
      have h87_ := ((h17_ (S 1059 0 + 1 - 1)) (la_wrapIn10_17 h12_))
      have e88_ : (if S 1059 0 + 1 - 1 = S 1059 0 + 1 - 1 then p3 else S 1100039 (S 1059 0 + 1 - 1) : Int) = p3 := if_pos la_wrapIn10_18
      exact e88_
    refine ⟨?_, ?_⟩
    · skip
      have h89_ := ((h17_ (S 1059 0 + 1 - 1)) (la_wrapIn10_17 h12_))
      have e90_ : (if S 1059 0 + 1 - 1 = S 1059 0 + 1 - 1 then p4 else S 1100040 (S 1059 0 + 1 - 1) : Int) = p4 := if_pos la_wrapIn10_18
      exact e90_
    have h91_ := ((h17_ (S 1059 0 + 1 - 1)) (la_wrapIn10_17 h12_))
    have e92_ : (if S 1059 0 + 1 - 1 = S 1059 0 + 1 - 1 then S 1060 0 else S 1100041 (S 1059 0 + 1 - 1) : Int) = S 1060 0 := if_pos la_wrapIn10_18
    exact e92_
  intro h93_
  exact ((la_wrapIn10_20 h14_ h93_)).elim
set_option maxRecDepth 8000 in
set_option maxHeartbeats 8000000 in
theorem t_wrapIn10 : ∀ (p1 : Int) (p2 : Int) (p3 : Int) (p4 : Int) (S : sv_S), sm_ok S → sv_R p1 → sv_R p2 → sv_R p3 → sv_R p4 → ((S 1100000 0) = 10 ∧ (S 1061 0) = 97 ∧ (S 1062 0) = 98 ∧ (S 1063 0) = 99 ∧ (S 1064 0) = 100 ∧ (S 1065 0) = 101 ∧ 0 ≤ (S 1059 0) ∧ (S 1059 0) ≤ 8000 ∧ (S 1059 0) < 8000 ∧ -1 ≤ (S 1060 0) ∧ (S 1060 0) < (S 1059 0) ∧ (∀ i : Int, 0 ≤ i → i < (S 1059 0) → (S 97 i) = (S 1100037 i) ∧ (S 98 i) = (S 1100038 i) ∧ (S 99 i) = (S 1100039 i) ∧ (S 100 i) = (S 1100040 i) ∧ (S 101 i) = (S 1100041 i))) → sv_T sm_XS sm_cs sm_L sm_sh 4 (q_wrapIn10 p1 p2 p3 p4 S) 93 0 (lv_args 0 [.ref 0, sv_I p1, sv_I p2, sv_I p3, sv_I p4]) [] S := by
  intro p1 p2 p3 p4 S hok hp1 hp2 hp3 hp4 hpre
  have h := f_wrapIn10 p1 p2 p3 p4 S hok hp1 hp2 hp3 hp4 hpre
  have hM := sm_h93
  show sv_T sm_XS sm_cs sm_L sm_sh 4 (q_wrapIn10 p1 p2 p3 p4 S) 93 0 [(0, .ref 0), (1, sv_I p1), (2, sv_I p2), (3, sv_I p3), (4, sv_I p4)] [] S
  refine sv_aload_n hM dX12_wrapIn_0 rfl rfl ?_
  have k1 : sv_R (S 1059 0) := sm_okI hok sm_r1059 0
  have h := h k1
  refine sv_getI hM dX12_wrapIn_1 sm_fl_637 (sm_a0 _) sm_k59 rfl (x := (S 1059 0)) rfl ?_
  refine sv_aload_n hM dX12_wrapIn_4 rfl rfl ?_
  obtain ⟨o2, h⟩ := h
  refine sv_getY hM dX12_wrapIn_5 sm_fl_113 (sm_a0 _) (j := 97) ((sm_k61 _).trans (congrArg (fun z : Int => some (Value.ref z.toNat)) o2)) rfl ?_
  obtain ⟨o3, h⟩ := h
  refine sv_alen hM dX12_wrapIn_8 (sm_aD (m := 10) (q := 5) o3 (by decide) (by decide)) (by decide) (r := (8000 : Int)) (by decide) rfl ?_
  refine sv_icmp_ne hM dX12_wrapIn_9 k1 (⟨by decide, by decide⟩ : sv_R (8000 : Int)) (t := 67) rfl rfl (fun hc => ?_) (fun hc => ?_)
  · have h := h.1 (hc)
    refine sv_aload_n hM dX12_wrapIn_67 rfl rfl ?_
    refine sv_getY hM dX12_wrapIn_68 sm_fl_113 (sm_a0 _) (j := 97) ((sm_k61 _).trans (congrArg (fun z : Int => some (Value.ref z.toNat)) o2)) rfl ?_
    refine sv_aload_n hM dX12_wrapIn_71 rfl rfl ?_
    refine sv_getI hM dX12_wrapIn_72 sm_fl_637 (sm_a0 _) sm_k59 rfl (x := (S 1059 0)) rfl ?_
    refine sv_iload_n hM dX12_wrapIn_75 rfl rfl ?_
    obtain ⟨o4, h⟩ := h
    refine sv_iast sm_X hM dX12_wrapIn_76 (sm_aD (m := 10) (q := 5) o3 (by decide) (by decide)) (by decide) o4.1 o4.2 rfl ?_
    have ok5 : sm_ok (sv_up S 97 (S 1059 0) p1) := sm_upI hok sm_r97 hp1
    have md6 : sv_mod [1059, 1060, 1100000, 1061, 1062, 1063, 1064, 1065, 34, 35, 36, 37, 38, 92, 93, 94, 95, 96, 97, 98, 99, 100, 101, 1100037, 1100038, 1100039, 1100040, 1100041] S (sv_up S 97 (S 1059 0) p1) := sv_mod.up sv_mod.rf (by decide)
    refine sv_aload_n hM dX12_wrapIn_77 rfl rfl ?_
    obtain ⟨o7, h⟩ := h
    refine sv_getY hM dX12_wrapIn_78 sm_fl_116 (sm_a0 _) (j := 98) ((sm_k62 _).trans (congrArg (fun z : Int => some (Value.ref z.toNat)) o7)) rfl ?_
    refine sv_aload_n hM dX12_wrapIn_81 rfl rfl ?_
    refine sv_getI hM dX12_wrapIn_82 sm_fl_637 (sm_a0 _) sm_k59 rfl (x := (S 1059 0)) rfl ?_
    refine sv_iload_n hM dX12_wrapIn_85 rfl rfl ?_
    refine sv_iast sm_X hM dX12_wrapIn_86 (sm_aD (m := 10) (q := 6) o3 (by decide) (by decide)) (by decide) o4.1 o4.2 rfl ?_
    have ok8 : sm_ok (sv_up (sv_up S 97 (S 1059 0) p1) 98 (S 1059 0) p2) := sm_upI ok5 sm_r98 hp2
    have md9 : sv_mod [1059, 1060, 1100000, 1061, 1062, 1063, 1064, 1065, 34, 35, 36, 37, 38, 92, 93, 94, 95, 96, 97, 98, 99, 100, 101, 1100037, 1100038, 1100039, 1100040, 1100041] S (sv_up (sv_up S 97 (S 1059 0) p1) 98 (S 1059 0) p2) := sv_mod.up md6 (by decide)
    refine sv_aload_n hM dX12_wrapIn_87 rfl rfl ?_
    obtain ⟨o10, h⟩ := h
    refine sv_getY hM dX12_wrapIn_88 sm_fl_119 (sm_a0 _) (j := 99) ((sm_k63 _).trans (congrArg (fun z : Int => some (Value.ref z.toNat)) o10)) rfl ?_
    refine sv_aload_n hM dX12_wrapIn_91 rfl rfl ?_
    refine sv_getI hM dX12_wrapIn_92 sm_fl_637 (sm_a0 _) sm_k59 rfl (x := (S 1059 0)) rfl ?_
    refine sv_iload_n hM dX12_wrapIn_95 rfl rfl ?_
    refine sv_iast sm_X hM dX12_wrapIn_96 (sm_aD (m := 10) (q := 7) o3 (by decide) (by decide)) (by decide) o4.1 o4.2 rfl ?_
    have ok11 : sm_ok (sv_up (sv_up (sv_up S 97 (S 1059 0) p1) 98 (S 1059 0) p2) 99 (S 1059 0) p3) := sm_upI ok8 sm_r99 hp3
    have md12 : sv_mod [1059, 1060, 1100000, 1061, 1062, 1063, 1064, 1065, 34, 35, 36, 37, 38, 92, 93, 94, 95, 96, 97, 98, 99, 100, 101, 1100037, 1100038, 1100039, 1100040, 1100041] S (sv_up (sv_up (sv_up S 97 (S 1059 0) p1) 98 (S 1059 0) p2) 99 (S 1059 0) p3) := sv_mod.up md9 (by decide)
    refine sv_aload_n hM dX12_wrapIn_97 rfl rfl ?_
    obtain ⟨o13, h⟩ := h
    refine sv_getY hM dX12_wrapIn_98 sm_fl_122 (sm_a0 _) (j := 100) ((sm_k64 _).trans (congrArg (fun z : Int => some (Value.ref z.toNat)) o13)) rfl ?_
    refine sv_aload_n hM dX12_wrapIn_101 rfl rfl ?_
    refine sv_getI hM dX12_wrapIn_102 sm_fl_637 (sm_a0 _) sm_k59 rfl (x := (S 1059 0)) rfl ?_
    refine sv_iload hM dX12_wrapIn_105 rfl rfl ?_
    refine sv_iast sm_X hM dX12_wrapIn_107 (sm_aD (m := 10) (q := 8) o3 (by decide) (by decide)) (by decide) o4.1 o4.2 rfl ?_
    have ok14 : sm_ok (sv_up (sv_up (sv_up (sv_up S 97 (S 1059 0) p1) 98 (S 1059 0) p2) 99 (S 1059 0) p3) 100 (S 1059 0) p4) := sm_upI ok11 sm_r100 hp4
    have md15 : sv_mod [1059, 1060, 1100000, 1061, 1062, 1063, 1064, 1065, 34, 35, 36, 37, 38, 92, 93, 94, 95, 96, 97, 98, 99, 100, 101, 1100037, 1100038, 1100039, 1100040, 1100041] S (sv_up (sv_up (sv_up (sv_up S 97 (S 1059 0) p1) 98 (S 1059 0) p2) 99 (S 1059 0) p3) 100 (S 1059 0) p4) := sv_mod.up md12 (by decide)
    refine sv_aload_n hM dX12_wrapIn_108 rfl rfl ?_
    obtain ⟨o16, h⟩ := h
    refine sv_getY hM dX12_wrapIn_109 sm_fl_125 (sm_a0 _) (j := 101) ((sm_k65 _).trans (congrArg (fun z : Int => some (Value.ref z.toNat)) o16)) rfl ?_
    refine sv_aload_n hM dX12_wrapIn_112 rfl rfl ?_
    refine sv_getI hM dX12_wrapIn_113 sm_fl_637 (sm_a0 _) sm_k59 rfl (x := (S 1059 0)) rfl ?_
    refine sv_aload_n hM dX12_wrapIn_116 rfl rfl ?_
    have k17 : sv_R (S 1060 0) := sm_okI ok14 sm_r1060 0
    have h := h k17
    refine sv_getI hM dX12_wrapIn_117 sm_fl_634 (sm_a0 _) sm_k60 rfl (x := (S 1060 0)) rfl ?_
    refine sv_iast sm_X hM dX12_wrapIn_120 (sm_aD (m := 10) (q := 9) o3 (by decide) (by decide)) (by decide) o4.1 o4.2 rfl ?_
    have ok18 : sm_ok (sv_up (sv_up (sv_up (sv_up (sv_up S 97 (S 1059 0) p1) 98 (S 1059 0) p2) 99 (S 1059 0) p3) 100 (S 1059 0) p4) 101 (S 1059 0) (S 1060 0)) := sm_upI ok14 sm_r101 k17
    have md19 : sv_mod [1059, 1060, 1100000, 1061, 1062, 1063, 1064, 1065, 34, 35, 36, 37, 38, 92, 93, 94, 95, 96, 97, 98, 99, 100, 101, 1100037, 1100038, 1100039, 1100040, 1100041] S (sv_up (sv_up (sv_up (sv_up (sv_up S 97 (S 1059 0) p1) 98 (S 1059 0) p2) 99 (S 1059 0) p3) 100 (S 1059 0) p4) 101 (S 1059 0) (S 1060 0)) := sv_mod.up md15 (by decide)
    refine sv_aload_n hM dX12_wrapIn_121 rfl rfl ?_
    refine sv_aload_n hM dX12_wrapIn_122 rfl rfl ?_
    refine sv_getI hM dX12_wrapIn_123 sm_fl_637 (sm_a0 _) sm_k59 rfl (x := (S 1059 0)) rfl ?_
    refine sv_putI sm_X hM dX12_wrapIn_126 sm_fp_634 (sm_a0 _) sm_q60 (Or.inl rfl) rfl rfl rfl rfl ?_
    have ok20 : sm_ok (sv_up (sv_up (sv_up (sv_up (sv_up (sv_up S 97 (S 1059 0) p1) 98 (S 1059 0) p2) 99 (S 1059 0) p3) 100 (S 1059 0) p4) 101 (S 1059 0) (S 1060 0)) 1060 0 (S 1059 0)) := sm_upI ok18 sm_r1060 k1
    have md21 : sv_mod [1059, 1060, 1100000, 1061, 1062, 1063, 1064, 1065, 34, 35, 36, 37, 38, 92, 93, 94, 95, 96, 97, 98, 99, 100, 101, 1100037, 1100038, 1100039, 1100040, 1100041] S (sv_up (sv_up (sv_up (sv_up (sv_up (sv_up S 97 (S 1059 0) p1) 98 (S 1059 0) p2) 99 (S 1059 0) p3) 100 (S 1059 0) p4) 101 (S 1059 0) (S 1060 0)) 1060 0 (S 1059 0)) := sv_mod.up md19 (by decide)
    refine sv_aload_n hM dX12_wrapIn_129 rfl rfl ?_
    refine sv_dupA hM dX12_wrapIn_130 rfl ?_
    refine sv_getI hM dX12_wrapIn_131 sm_fl_637 (sm_a0 _) sm_k59 rfl (x := (S 1059 0)) rfl ?_
    refine sv_iconst (d := (1 : Int)) hM dX12_wrapIn_134 rfl rfl ?_
    refine sv_iadd hM dX12_wrapIn_135 rfl ?_
    obtain ⟨o22, h⟩ := h
    refine sv_putI sm_X hM dX12_wrapIn_136 sm_fp_637 (sm_a0 _) sm_q59 (Or.inl rfl) rfl rfl rfl rfl ?_
    have ok23 : sm_ok (sv_up (sv_up (sv_up (sv_up (sv_up (sv_up (sv_up S 97 (S 1059 0) p1) 98 (S 1059 0) p2) 99 (S 1059 0) p3) 100 (S 1059 0) p4) 101 (S 1059 0) (S 1060 0)) 1060 0 (S 1059 0)) 1059 0 ((S 1059 0) + (1 : Int))) := sm_upI ok20 sm_r1059 o22
    have md24 : sv_mod [1059, 1060, 1100000, 1061, 1062, 1063, 1064, 1065, 34, 35, 36, 37, 38, 92, 93, 94, 95, 96, 97, 98, 99, 100, 101, 1100037, 1100038, 1100039, 1100040, 1100041] S (sv_up (sv_up (sv_up (sv_up (sv_up (sv_up (sv_up S 97 (S 1059 0) p1) 98 (S 1059 0) p2) 99 (S 1059 0) p3) 100 (S 1059 0) p4) 101 (S 1059 0) (S 1060 0)) 1060 0 (S 1059 0)) 1059 0 ((S 1059 0) + (1 : Int))) := sv_mod.up md21 (by decide)
    obtain ⟨o25, h⟩ := h
    refine sv_ghost sm_X 1100037 (((S 1059 0) + (1 : Int)) - 1) (p1) (by decide) ?_
    have ok26 : sm_ok (sv_up (sv_up (sv_up (sv_up (sv_up (sv_up (sv_up (sv_up S 97 (S 1059 0) p1) 98 (S 1059 0) p2) 99 (S 1059 0) p3) 100 (S 1059 0) p4) 101 (S 1059 0) (S 1060 0)) 1060 0 (S 1059 0)) 1059 0 ((S 1059 0) + (1 : Int))) 1100037 (((S 1059 0) + (1 : Int)) - 1) (p1)) := sm_upI ok23 sm_r1100037 o25
    have md27 : sv_mod [1059, 1060, 1100000, 1061, 1062, 1063, 1064, 1065, 34, 35, 36, 37, 38, 92, 93, 94, 95, 96, 97, 98, 99, 100, 101, 1100037, 1100038, 1100039, 1100040, 1100041] S (sv_up (sv_up (sv_up (sv_up (sv_up (sv_up (sv_up (sv_up S 97 (S 1059 0) p1) 98 (S 1059 0) p2) 99 (S 1059 0) p3) 100 (S 1059 0) p4) 101 (S 1059 0) (S 1060 0)) 1060 0 (S 1059 0)) 1059 0 ((S 1059 0) + (1 : Int))) 1100037 (((S 1059 0) + (1 : Int)) - 1) (p1)) := sv_mod.up md24 (by decide)
    obtain ⟨o28, h⟩ := h
    refine sv_ghost sm_X 1100038 (((S 1059 0) + (1 : Int)) - 1) (p2) (by decide) ?_
    have ok29 : sm_ok (sv_up (sv_up (sv_up (sv_up (sv_up (sv_up (sv_up (sv_up (sv_up S 97 (S 1059 0) p1) 98 (S 1059 0) p2) 99 (S 1059 0) p3) 100 (S 1059 0) p4) 101 (S 1059 0) (S 1060 0)) 1060 0 (S 1059 0)) 1059 0 ((S 1059 0) + (1 : Int))) 1100037 (((S 1059 0) + (1 : Int)) - 1) (p1)) 1100038 (((S 1059 0) + (1 : Int)) - 1) (p2)) := sm_upI ok26 sm_r1100038 o28
    have md30 : sv_mod [1059, 1060, 1100000, 1061, 1062, 1063, 1064, 1065, 34, 35, 36, 37, 38, 92, 93, 94, 95, 96, 97, 98, 99, 100, 101, 1100037, 1100038, 1100039, 1100040, 1100041] S (sv_up (sv_up (sv_up (sv_up (sv_up (sv_up (sv_up (sv_up (sv_up S 97 (S 1059 0) p1) 98 (S 1059 0) p2) 99 (S 1059 0) p3) 100 (S 1059 0) p4) 101 (S 1059 0) (S 1060 0)) 1060 0 (S 1059 0)) 1059 0 ((S 1059 0) + (1 : Int))) 1100037 (((S 1059 0) + (1 : Int)) - 1) (p1)) 1100038 (((S 1059 0) + (1 : Int)) - 1) (p2)) := sv_mod.up md27 (by decide)
    obtain ⟨o31, h⟩ := h
    refine sv_ghost sm_X 1100039 (((S 1059 0) + (1 : Int)) - 1) (p3) (by decide) ?_
    have ok32 : sm_ok (sv_up (sv_up (sv_up (sv_up (sv_up (sv_up (sv_up (sv_up (sv_up (sv_up S 97 (S 1059 0) p1) 98 (S 1059 0) p2) 99 (S 1059 0) p3) 100 (S 1059 0) p4) 101 (S 1059 0) (S 1060 0)) 1060 0 (S 1059 0)) 1059 0 ((S 1059 0) + (1 : Int))) 1100037 (((S 1059 0) + (1 : Int)) - 1) (p1)) 1100038 (((S 1059 0) + (1 : Int)) - 1) (p2)) 1100039 (((S 1059 0) + (1 : Int)) - 1) (p3)) := sm_upI ok29 sm_r1100039 o31
    have md33 : sv_mod [1059, 1060, 1100000, 1061, 1062, 1063, 1064, 1065, 34, 35, 36, 37, 38, 92, 93, 94, 95, 96, 97, 98, 99, 100, 101, 1100037, 1100038, 1100039, 1100040, 1100041] S (sv_up (sv_up (sv_up (sv_up (sv_up (sv_up (sv_up (sv_up (sv_up (sv_up S 97 (S 1059 0) p1) 98 (S 1059 0) p2) 99 (S 1059 0) p3) 100 (S 1059 0) p4) 101 (S 1059 0) (S 1060 0)) 1060 0 (S 1059 0)) 1059 0 ((S 1059 0) + (1 : Int))) 1100037 (((S 1059 0) + (1 : Int)) - 1) (p1)) 1100038 (((S 1059 0) + (1 : Int)) - 1) (p2)) 1100039 (((S 1059 0) + (1 : Int)) - 1) (p3)) := sv_mod.up md30 (by decide)
    obtain ⟨o34, h⟩ := h
    refine sv_ghost sm_X 1100040 (((S 1059 0) + (1 : Int)) - 1) (p4) (by decide) ?_
    have ok35 : sm_ok (sv_up (sv_up (sv_up (sv_up (sv_up (sv_up (sv_up (sv_up (sv_up (sv_up (sv_up S 97 (S 1059 0) p1) 98 (S 1059 0) p2) 99 (S 1059 0) p3) 100 (S 1059 0) p4) 101 (S 1059 0) (S 1060 0)) 1060 0 (S 1059 0)) 1059 0 ((S 1059 0) + (1 : Int))) 1100037 (((S 1059 0) + (1 : Int)) - 1) (p1)) 1100038 (((S 1059 0) + (1 : Int)) - 1) (p2)) 1100039 (((S 1059 0) + (1 : Int)) - 1) (p3)) 1100040 (((S 1059 0) + (1 : Int)) - 1) (p4)) := sm_upI ok32 sm_r1100040 o34
    have md36 : sv_mod [1059, 1060, 1100000, 1061, 1062, 1063, 1064, 1065, 34, 35, 36, 37, 38, 92, 93, 94, 95, 96, 97, 98, 99, 100, 101, 1100037, 1100038, 1100039, 1100040, 1100041] S (sv_up (sv_up (sv_up (sv_up (sv_up (sv_up (sv_up (sv_up (sv_up (sv_up (sv_up S 97 (S 1059 0) p1) 98 (S 1059 0) p2) 99 (S 1059 0) p3) 100 (S 1059 0) p4) 101 (S 1059 0) (S 1060 0)) 1060 0 (S 1059 0)) 1059 0 ((S 1059 0) + (1 : Int))) 1100037 (((S 1059 0) + (1 : Int)) - 1) (p1)) 1100038 (((S 1059 0) + (1 : Int)) - 1) (p2)) 1100039 (((S 1059 0) + (1 : Int)) - 1) (p3)) 1100040 (((S 1059 0) + (1 : Int)) - 1) (p4)) := sv_mod.up md33 (by decide)
    obtain ⟨o37, h⟩ := h
    refine sv_ghost sm_X 1100041 (((S 1059 0) + (1 : Int)) - 1) (((S 1060 0))) (by decide) ?_
    have ok38 : sm_ok (sv_up (sv_up (sv_up (sv_up (sv_up (sv_up (sv_up (sv_up (sv_up (sv_up (sv_up (sv_up S 97 (S 1059 0) p1) 98 (S 1059 0) p2) 99 (S 1059 0) p3) 100 (S 1059 0) p4) 101 (S 1059 0) (S 1060 0)) 1060 0 (S 1059 0)) 1059 0 ((S 1059 0) + (1 : Int))) 1100037 (((S 1059 0) + (1 : Int)) - 1) (p1)) 1100038 (((S 1059 0) + (1 : Int)) - 1) (p2)) 1100039 (((S 1059 0) + (1 : Int)) - 1) (p3)) 1100040 (((S 1059 0) + (1 : Int)) - 1) (p4)) 1100041 (((S 1059 0) + (1 : Int)) - 1) (((S 1060 0)))) := sm_upI ok35 sm_r1100041 o37
    have md39 : sv_mod [1059, 1060, 1100000, 1061, 1062, 1063, 1064, 1065, 34, 35, 36, 37, 38, 92, 93, 94, 95, 96, 97, 98, 99, 100, 101, 1100037, 1100038, 1100039, 1100040, 1100041] S (sv_up (sv_up (sv_up (sv_up (sv_up (sv_up (sv_up (sv_up (sv_up (sv_up (sv_up (sv_up S 97 (S 1059 0) p1) 98 (S 1059 0) p2) 99 (S 1059 0) p3) 100 (S 1059 0) p4) 101 (S 1059 0) (S 1060 0)) 1060 0 (S 1059 0)) 1059 0 ((S 1059 0) + (1 : Int))) 1100037 (((S 1059 0) + (1 : Int)) - 1) (p1)) 1100038 (((S 1059 0) + (1 : Int)) - 1) (p2)) 1100039 (((S 1059 0) + (1 : Int)) - 1) (p3)) 1100040 (((S 1059 0) + (1 : Int)) - 1) (p4)) 1100041 (((S 1059 0) + (1 : Int)) - 1) (((S 1060 0)))) := sv_mod.up md36 (by decide)
    have k40 : (((S 1100000 0) = 10 ∧ (S 1061 0) = 97 ∧ (S 1062 0) = 98 ∧ (S 1063 0) = 99 ∧ (S 1064 0) = 100 ∧ (S 1065 0) = 101) → (0 ≤ ((S 1059 0) + (1 : Int)) ∧ ((S 1059 0) + (1 : Int)) ≤ 8000) → (∀ i : Int, 0 ≤ i → i < ((S 1059 0) + (1 : Int)) → (if i = (S 1059 0) then p1 else (S 97 i)) = (if i = (((S 1059 0) + (1 : Int)) - 1) then (p1) else (S 1100037 i)) ∧ (if i = (S 1059 0) then p2 else (S 98 i)) = (if i = (((S 1059 0) + (1 : Int)) - 1) then (p2) else (S 1100038 i)) ∧ (if i = (S 1059 0) then p3 else (S 99 i)) = (if i = (((S 1059 0) + (1 : Int)) - 1) then (p3) else (S 1100039 i)) ∧ (if i = (S 1059 0) then p4 else (S 100 i)) = (if i = (((S 1059 0) + (1 : Int)) - 1) then (p4) else (S 1100040 i)) ∧ (if i = (S 1059 0) then (S 1060 0) else (S 101 i)) = (if i = (((S 1059 0) + (1 : Int)) - 1) then (((S 1060 0))) else (S 1100041 i))) → sm_DY (S 1061 0) (S 1062 0) (S 1063 0) (S 1064 0) (S 1065 0) (S 1100000 0) ((S 1059 0) + (1 : Int)) (S 34) (S 35) (S 36) (S 37) (S 38) (S 92) (S 93) (S 94) (S 95) (S 96) (fun i' : Int => if i' = (S 1059 0) then p1 else (S 97) i') (fun i' : Int => if i' = (S 1059 0) then p2 else (S 98) i') (fun i' : Int => if i' = (S 1059 0) then p3 else (S 99) i') (fun i' : Int => if i' = (S 1059 0) then p4 else (S 100) i') (fun i' : Int => if i' = (S 1059 0) then (S 1060 0) else (S 101) i') (fun i' : Int => if i' = (((S 1059 0) + (1 : Int)) - 1) then (p1) else (S 1100037) i') (fun i' : Int => if i' = (((S 1059 0) + (1 : Int)) - 1) then (p2) else (S 1100038) i') (fun i' : Int => if i' = (((S 1059 0) + (1 : Int)) - 1) then (p3) else (S 1100039) i') (fun i' : Int => if i' = (((S 1059 0) + (1 : Int)) - 1) then (p4) else (S 1100040) i') (fun i' : Int => if i' = (((S 1059 0) + (1 : Int)) - 1) then (((S 1060 0))) else (S 1100041) i')) := fun a b c => sm_DY_10 a b c
    have h := h k40
    exact sv_vret hM dX12_wrapIn_139 rfl ⟨rfl, ok38, md39, h⟩
  · have h := h.2 (hc)
    exact absurd h (by decide)
def q_unwrap (p1 : Int) (p2 : Int) (S : sv_S) : Option Value → sv_S → Prop := fun v S' => v = none ∧ sm_ok S' ∧ sv_mod [1059, 1060] S S' ∧ ((S' 1060 0) = p1 ∧ (S' 1059 0) = p2)
theorem la_unwrap_0 {x0 : Int} : x0 = x0 := by omega
set_option maxHeartbeats 2000000 in
theorem f_unwrap : ∀ (p1 : Int) (p2 : Int) (S : sv_S), sm_ok S → sv_R p1 → sv_R p2 → (True) → (p1 = p1 ∧ p2 = p2) := by
  intro p1
  intro p2
  intro S
  intro h1_
  intro h2_
  intro h3_
  intro _
  refine ⟨la_unwrap_0, ?_⟩
  exact la_unwrap_0
set_option maxRecDepth 8000 in
set_option maxHeartbeats 2000000 in
theorem t_unwrap : ∀ (p1 : Int) (p2 : Int) (S : sv_S), sm_ok S → sv_R p1 → sv_R p2 → (True) → sv_T sm_XS sm_cs sm_L sm_sh 0 (q_unwrap p1 p2 S) 92 0 (lv_args 0 [.ref 0, sv_I p1, sv_I p2]) [] S := by
  intro p1 p2 S hok hp1 hp2 hpre
  have h := f_unwrap p1 p2 S hok hp1 hp2 hpre
  have hM := sm_h92
  show sv_T sm_XS sm_cs sm_L sm_sh 0 (q_unwrap p1 p2 S) 92 0 [(0, .ref 0), (1, sv_I p1), (2, sv_I p2)] [] S
  refine sv_aload_n hM dX12_unwrap_0 rfl rfl ?_
  refine sv_iload_n hM dX12_unwrap_1 rfl rfl ?_
  refine sv_putI sm_X hM dX12_unwrap_2 sm_fp_634 (sm_a0 _) sm_q60 (Or.inl rfl) rfl rfl rfl rfl ?_
  have ok1 : sm_ok (sv_up S 1060 0 p1) := sm_upI hok sm_r1060 hp1
  have md2 : sv_mod [1059, 1060] S (sv_up S 1060 0 p1) := sv_mod.up sv_mod.rf (by decide)
  refine sv_aload_n hM dX12_unwrap_5 rfl rfl ?_
  refine sv_iload_n hM dX12_unwrap_6 rfl rfl ?_
  refine sv_putI sm_X hM dX12_unwrap_7 sm_fp_637 (sm_a0 _) sm_q59 (Or.inl rfl) rfl rfl rfl rfl ?_
  have ok3 : sm_ok (sv_up (sv_up S 1060 0 p1) 1059 0 p2) := sm_upI ok1 sm_r1059 hp2
  have md4 : sv_mod [1059, 1060] S (sv_up (sv_up S 1060 0 p1) 1059 0 p2) := sv_mod.up md2 (by decide)
  exact sv_vret hM dX12_unwrap_10 rfl ⟨rfl, ok3, md4, h⟩
