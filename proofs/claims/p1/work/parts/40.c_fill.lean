theorem arrV_c {cI : ClassId} {N : Nat} {f g : Nat → Value} (h : ∀ j, j < N → f j = g j) : arrV cI N f = arrV cI N g := by
  unfold arrV
  rw [show (fun j : Fin N => f j.val) = (fun j : Fin N => g j.val) from funext fun j => h j.val j.isLt]
theorem fillP {D : va_G} {cl : List vw_C} {qa n : Nat} {ka : ClassId} {g : Nat → Int32} {v : Int32} {H : Heap} (hP : va_P D cl [(qa, .inl (ka, n, .inl g))] H) (h : ∀ j, j < n → g j = v) : va_P D cl [(qa, .inl (ka, n, .inl (fun _ => v)))] H := by
  intro k q hk
  match k, hk with
  | 0, hk =>
    cases hk
    have h1 : H[qa]? = some (vp_cell ka (n, .inl g)) := hP 0 _ rfl
    show H[qa]? = some (vp_cell ka (n, .inl (fun _ => v)))
    rw [h1, vp_cell_i, vp_cell_i]
    exact congrArg some (arrV_c (fun j hj => by rw [h j hj]))
  | k + 1, hk => simp at hk
theorem fillD {A : Nat → Prop} {qa n : Nat} {ka : ClassId} {g : Nat → Int32} {v : Int32} (hD : va_D A [(qa, .inl (ka, n, .inl g))]) : va_D A [(qa, .inl (ka, n, .inl (fun _ => v)))] := by
  refine ⟨fun i j p q h1 h2 _ => ?_, fun k q hk => ?_⟩
  · have a1 : i < 1 := (List.getElem?_eq_some_iff.mp h1).1
    have a2 : j < 1 := (List.getElem?_eq_some_iff.mp h2).1
    omega
  · match k, hk with
    | 0, hk => cases hk; exact hD.2 0 (qa, .inl (ka, n, .inl g)) rfl
    | k + 1, hk => simp at hk
set_option maxHeartbeats 8000000 in
set_option maxRecDepth 100000 in
theorem k_fillc (l : Launch) (dC : Nat → ClassId) (dI : Nat → Nat → Nat) (sz : Nat) (qa n : Nat) (ka : ClassId) (f : Nat → Int32) (v : Int32) (hn : n < 2 ^ 31) : Met l yJ7_fill_53178 wsJ7_fill_53178 ({ frames := 0, cells := 0, slots := 0, locals := 0 }) (va_Pc [.ref qa, .int v] (fun U => U.heap.size = sz ∧ va_P (dC, dI) vwCl [(qa, .inl (ka, n, .inl f))] U.heap ∧ va_K (dC, dI) vwCl [(ka, .int)] U ∧ va_D (fun _ => True) [(qa, .inl (ka, n, .inl f))])) (va_Qv (fun _ : Unit => True) (fun (_ : Unit) t9 => va_P (dC, dI) vwCl [(qa, .inl (ka, n, .inl (fun _ => v)))] t9.heap ∧ va_K (dC, dI) vwCl [(ka, .int)] t9 ∧ va_D (va_A [(qa, .inl (ka, n, .inl f))] sz) [(qa, .inl (ka, n, .inl (fun _ => v)))]) (va_A [(qa, .inl (ka, n, .inl f))] sz)) 0 0 (va_A [(qa, .inl (ka, n, .inl f))] sz) := by
  refine Met.ofW (cc := cJ7_fill_53178) (maxL := 4) (ret := none) (by decide) rfl ?_
  intro p e s m args below meth c s₁ B hml hv
  obtain ⟨rfl, hsz, hP, hK, hD0⟩ := hv
  have hx := B.exec
  have hb := B.bytes
  have hr := B.returns
  have hts := atoms_spec (ws := wsJ7_fill_53178) B.pre
  have hown : s.vm.findClass RJ7 = some m.cls := findClass_of_methodNamed B.named
  have hlocks := B.notSynchronized
  subst hsz
  have hD := hD0.self (sz := s.heap.size)
  generalize hAe : va_A [(qa, .inl (ka, n, .inl f))] s.heap.size = A at hD ⊢
  have hA : ∀ q : Nat, s.heap.size ≤ q → A q := fun q h => by rw [← hAe]; exact Or.inr h
  have hS : va_S A s.heap s.heap [] := va_S.rf
  have hP : va_P (dC, dI) vwCl [(qa, .inl (ka, n, .inl f))] s.heap := hP
  have hl := lv_entry ([.ref qa, .int v]) (n := 4) (Nat.le_of_ble_eq_true rfl)
  rw [lg_entry_eq]
  generalize (lg_sl ([.ref qa, .int v]) ++ List.replicate (4 - (lg_sl ([.ref qa, .int v])).length) Slot.unset).toArray = ls at hl ⊢
  have hl : lv_has ls 4 [(0, .ref qa), (1, .int v)] := hl
  refine lv_iconst (v := 0) hx hb dJ7_fill_53178_0 (by decide) ?_
  refine lv_istore_n (lv' := [(2, .int 0), (0, .ref qa), (1, .int v)]) hx hb dJ7_fill_53178_1 rfl hl (by decide) rfl (fun ls hl => ?_)
  refine lv_aload_n hx hb dJ7_fill_53178_2 rfl (lv_at hl 1 rfl) ?_
  refine va_alen (v := nI n) hx hb hK hP 0 0 rfl rfl rfl dJ7_fill_53178_3 ?_
  refine lv_istore_n (lv' := [(3, .int (nI n)), (2, .int 0), (0, .ref qa), (1, .int v)]) hx hb dJ7_fill_53178_4 rfl hl (by decide) rfl (fun ls hl => ?_)
  refine (?_ : ∀ (m9 k : Nat) (g : Nat → Int32) (H : Heap) (locs : List Loc) (ls : Array Slot), n < k + m9 → k ≤ n → (∀ j, j < k → g j = v) → va_P (dC, dI) vwCl [(qa, .inl (ka, n, .inl g))] H → va_D A [(qa, .inl (ka, n, .inl g))] → va_S A s.heap H locs → lv_has ls 4 [(0, .ref qa), (1, .int v), (2, .int (nI k)), (3, .int (nI n))] → W p l e _ s m _ below meth c H locs _ _ _ (F0 m 5 ls [])) (n + 1) 0 f s.heap _ ls (by omega) (by omega) (fun j hj => absurd hj (by omega)) hP hD hS (lv_sub hl [2, 3, 1, 0] rfl)
  intro m9
  induction m9 with
  | zero =>
    intro k g H locs ls h1 h2
    exact absurd h1 (by omega)
  | succ m9 ih =>
    intro k g H locs ls hm hk hg hP hD hS hl
    rcases Nat.lt_or_ge k n with hkt | hkt
    · skip
      refine lv_iload_n hx hb dJ7_fill_53178_5 rfl (lv_at hl 2 rfl) ?_
      refine lv_iload_n hx hb dJ7_fill_53178_6 rfl (lv_at hl 3 rfl) ?_
      refine lv_icmp_ge (tgt := 20) hx hb dJ7_fill_53178_7 (by decide) (fun c1_7 => absurd c1_7 (nI_ge hkt hn)) (fun _ => ?_)
      refine lv_aload_n hx hb dJ7_fill_53178_10 rfl (lv_at hl 0 rfl) ?_
      refine lv_iload_n hx hb dJ7_fill_53178_11 rfl (lv_at hl 2 rfl) ?_
      refine lv_iload_n hx hb dJ7_fill_53178_12 rfl (lv_at hl 1 rfl) ?_
      refine va_iast hx hb hK hP hD hS 0 0 rfl rfl (vp_in_nI hkt hn) dJ7_fill_53178_13 (fun H locs hP hD hS => ?_)
      have hP : va_P (dC, dI) vwCl [(qa, .inl (ka, n, .inl (upd g ((nI k) : Int32).toNatClampNeg v)))] H := hP
      have hD : va_D A [(qa, .inl (ka, n, .inl (upd g ((nI k) : Int32).toNatClampNeg v)))] := hD
      refine lv_iinc (v := nI (k + 1)) (lv' := [(2, .int (nI (k + 1))), (0, .ref qa), (1, .int v), (3, .int (nI n))]) hx hb dJ7_fill_53178_14 hl (k := 2) rfl (nI_1 k) (by decide) rfl (fun ls hl => ?_)
      refine lv_goto (tgt := 5) hx hb dJ7_fill_53178_17 (by decide) ?_
      have hg2 : ∀ j, j < k + 1 → (upd g (nI k : Int32).toNatClampNeg v) j = v := by
        intro j hj
        rw [nI_clamp (by omega)]
        by_cases e : j = k
        · subst e; exact pk_us
        · rw [pk_un e]; exact hg j (by omega)
      exact ih (k + 1) _ H locs ls (by omega) (by omega) hg2 hP hD hS (lv_sub hl [1, 2, 0, 3] rfl)
    · skip
      refine lv_iload_n hx hb dJ7_fill_53178_5 rfl (lv_at hl 2 rfl) ?_
      refine lv_iload_n hx hb dJ7_fill_53178_6 rfl (lv_at hl 3 rfl) ?_
      refine lv_icmp_ge (tgt := 20) hx hb dJ7_fill_53178_7 (by decide) (fun _ => ?_) (fun c2_7 => absurd (nI_le hkt (by omega)) c2_7)
      have hP : va_P (dC, dI) vwCl [(qa, .inl (ka, n, .inl (fun _ => v)))] H := fillP hP (fun j hj => hg j (by omega))
      have hD : va_D A [(qa, .inl (ka, n, .inl (fun _ => v)))] := fillD hD
      exact W.vret hx hb hr (fun t ht hW => ⟨⟨(), rfl, trivial, by rw [ht]; exact hP, va_K.moved hW.alike hK, hD⟩, hS.F ht⟩) hS.2.2 dJ7_fill_53178_20
