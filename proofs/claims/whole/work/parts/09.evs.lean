/-- instructions that write to the world; whether a final field may be written is told by fin -/
def ev_store (fl : Nat → Option (Nat × Nat × FieldType × Bool)) (fin : Bool) : Instr → Nat → List Value → List ev_C → Option (List Value × List ev_C)
  | .putfield i, 3, v :: .ref a :: st, E => match fl i, E[a]? with
    | some (ci, k, ty, f), some (.inr (ci', fs)) => if ci' = ci then if k < fs.length then if f = true → fin = true then if narrow ty v = v then if fits ty v = true then some (st, E.set a (.inr (ci, fs.set k v))) else none else none else none else none else none
    | _, _ => none
  | .iastore, 1, .int x :: .int i :: .ref a :: st, E => match E[a]? with
    | some (.inl (.int, n, .inl f)) => if ev_in i n = true then some (st, E.set a (.inl (.int, n, .inl (upd f i.toNatClampNeg x)))) else none
    | _ => none
  | .lastore, 1, .long x :: .int i :: .ref a :: st, E => match E[a]? with
    | some (.inl (.long, n, .inr (.inl f))) => if ev_in i n = true then some (st, E.set a (.inl (.long, n, .inr (.inl (vp_updL f i.toNatClampNeg x))))) else none
    | _ => none
  | .castore, 1, .int x :: .int i :: .ref a :: st, E => match E[a]? with
    | some (.inl (.char, n, .inl f)) => if ev_in i n = true then some (st, E.set a (.inl (.char, n, .inl (upd f i.toNatClampNeg (vp_nar .char x))))) else none
    | _ => none
  | .bastore, 1, .int x :: .int i :: .ref a :: st, E => match E[a]? with
    | some (.inl (.byte, n, .inl f)) => if ev_in i n = true then some (st, E.set a (.inl (.byte, n, .inl (upd f i.toNatClampNeg (vp_nar .byte x))))) else none
    | some (.inl (.boolean, n, .inl f)) => if ev_in i n = true then some (st, E.set a (.inl (.boolean, n, .inl (upd f i.toNatClampNeg (vp_nar .boolean x))))) else none
    | _ => none
  | _, _, _, _ => none
/-- what the tables say of a method's field words that write -/
def ev_FP (Ts : List Jvm.Cond) (cl : List vw_C) (own : String) (fl : Nat → Option (Nat × Nat × FieldType × Bool)) : Prop :=
  ∀ (i ci k : Nat) (ty : FieldType) (f : Bool), fl i = some (ci, k, ty, f) → ∃ (C : String) (T : u_T) (N : Nat), cl[ci]? = some (C, T, N) ∧ k < N ∧ (∀ w ∈ u_ws C T N, w ∈ Ts) ∧ Jvm.Cond.fieldLink own i C (T k).2.1 (T k).2.2.1 ∈ Ts ∧ (T k).1 = C ∧ parseFieldDescriptor (T k).2.2.1 = some ty ∧ (T k).2.2.2 = f ∧ (∃ ty0 : Nat → FieldType, ∀ j, j < N → parseFieldDescriptor (T j).2.2.1 = some (ty0 j)) ∧ (∀ a, a < N → ∀ b, b < N → a ≠ b → (T a).2.1 ≠ (T b).2.1) ∧ (f = true → own = C)
theorem ev_v_narrow {ad : Nat → Nat} {ty : FieldType} {v : Value} (h : narrow ty v = v) : narrow ty (ev_v ad v) = ev_v ad v := by
  cases v with
  | ref a => cases ty <;> rfl
  | _ => exact h
theorem ev_v_fits {ad : Nat → Nat} {ty : FieldType} {v : Value} (h : fits ty v = true) : fits ty (ev_v ad v) = true := by
  cases v with
  | ref a => cases ty <;> first | rfl | exact h
  | _ => exact h
theorem ev_w_setf {ad : Nat → Nat} {ct : FieldType → ClassId} {E : List ev_C} {a ci k : Nat} {fs : List Value} {v : Value} : (ev_w ad ct E).set a (ad a, .inr (ci, (fs.map (ev_v ad)).set k (ev_v ad v))) = ev_w ad ct (E.set a (.inr (ci, fs.set k v))) := by
  rw [← ev_w_set]
  show _ = (ev_w ad ct E).set a (ad a, .inr (ci, (fs.set k v).map (ev_v ad)))
  rw [List.map_set]
section EVS
variable {p : Program} {l : Launch} {e : Env} {R : Room} {s : State} {m : MethodId} {args : Array Value} {below : List Frame} {meth : Method} {c : Code} {H : Heap} {locs : List Loc} {cells slots : Nat} {Q : State → Prop}
set_option maxHeartbeats 4000000 in
theorem ev_store_W {cc : ByteArray} (hx : p.tables.exec = Jvm.exec) (hb : c.code = cc) {D : va_G} {cl : List vw_C} {Ts : List Jvm.Cond} {own : String} {fl : Nat → Option (Nat × Nat × FieldType × Bool)} {fin : Bool} (hts : ∀ w ∈ Ts, w.before args s = true) (hown : s.vm.findClass own = some m.cls) (hfl : ev_FP Ts cl own fl) (hfin : fin = true → meth.name = "<init>")
    {ad : Nat → Nat} {ct : FieldType → ClassId} {E E' : List ev_C} {A : Nat → Prop} {H0 : Heap} (hK : va_K D cl (ev_tys ct) s) (hP : va_P D cl (ev_w ad ct E) H) (hD : va_D A (ev_w ad ct E)) (hS : va_S A H0 H locs) {pc len : Nat} {ins : Instr} {st st' : List Value} {ls : Array Slot} (hd : decode cc pc = .ok (ins, len)) (h : ev_store fl fin ins len st E = some (st', E'))
    (k : ∀ (H1 : Heap) (locs1 : List Loc), va_P D cl (ev_w ad ct E') H1 → va_D A (ev_w ad ct E') → va_S A H0 H1 locs1 → W p l e R s m args below meth c H1 locs1 cells slots Q (F0 m (pc + len) ls (ev_s ad st'))) : W p l e R s m args below meth c H locs cells slots Q (F0 m pc ls (ev_s ad st)) := by
  unfold ev_store at h
  split at h
  · split at h
    · rename_i hf hE
      split at h
      · rename_i hci
        subst hci
        split at h
        · rename_i hlt
          split at h
          · rename_i hff
            split at h
            · rename_i hn
              split at h
              · rename_i hfit
                cases h
                obtain ⟨C, T, N, hc, hk, hin, hlink, hdecl, hty, hfe, ⟨ty0, hty0⟩, hnm, hsame⟩ := hfl _ _ _ _ _ hf
                have kk : ∀ (H1 : Heap) (locs1 : List Loc), va_P D cl ((ev_w ad ct E).set _ (ad _, .inr (_, (List.map (ev_v ad) _).set _ (ev_v ad _)))) H1 → va_D A ((ev_w ad ct E).set _ (ad _, .inr (_, (List.map (ev_v ad) _).set _ (ev_v ad _)))) → va_S A H0 H1 locs1 → _ := fun H1 locs1 hP1 hD1 hS1 => k H1 locs1 (ev_w_setf ▸ hP1) (ev_w_setf ▸ hD1) hS1
                cases hfb : (T _).2.2.2 with
                | false => exact va_put hx hb hts hin ty0 hty0 hnm hown hK hP hD hS _ (ev_w_get hE) hc _ hk (hts _ hlink) (fun x h9 => by rw [hdecl] at h9; exact h9) hfb hty (ev_v_narrow hn) (ev_v_fits hfit) (by rw [List.length_map]; exact hlt) hd kk
                | true =>
                  have hft := hfe.symm.trans hfb
                  exact va_putF hx hb hts hin ty0 hty0 hnm hown hK hP hD hS _ (ev_w_get hE) hc _ hk (hts _ hlink) (fun x h9 => by rw [hdecl] at h9; exact h9) hfb (hfin (hff hft)) (hdecl.trans (hsame hft).symm) hty (ev_v_narrow hn) (ev_v_fits hfit) (by rw [List.length_map]; exact hlt) hd kk
              · cases h
            · cases h
          · cases h
        · cases h
      · cases h
    · cases h
  · split at h
    · rename_i hE
      split at h
      · rename_i h1
        cases h
        obtain ⟨t0, ht⟩ := ev_tys_at ct (ty := .int) (by decide)
        exact va_iast hx hb hK hP hD hS _ t0 (ev_w_get hE) ht (ev_in_t h1) hd (fun H1 locs1 hP1 hD1 hS1 => k H1 locs1 (by rw [← ev_w_set]; exact hP1) (by rw [← ev_w_set]; exact hD1) hS1)
      · cases h
    · cases h
  · split at h
    · rename_i hE
      split at h
      · rename_i h1
        cases h
        obtain ⟨t0, ht⟩ := ev_tys_at ct (ty := .long) (by decide)
        exact va_last hx hb hK hP hD hS _ t0 (ev_w_get hE) ht (ev_in_t h1) hd (fun H1 locs1 hP1 hD1 hS1 => k H1 locs1 (by rw [← ev_w_set]; exact hP1) (by rw [← ev_w_set]; exact hD1) hS1)
      · cases h
    · cases h
  · split at h
    · rename_i hE
      split at h
      · rename_i h1
        cases h
        obtain ⟨t0, ht⟩ := ev_tys_at ct (ty := .char) (by decide)
        exact va_cast hx hb hK hP hD hS _ t0 (ev_w_get hE) ht (ev_in_t h1) hd (fun H1 locs1 hP1 hD1 hS1 => k H1 locs1 (by rw [← ev_w_set]; exact hP1) (by rw [← ev_w_set]; exact hD1) hS1)
      · cases h
    · cases h
  · split at h
    · rename_i hE
      split at h
      · rename_i h1
        cases h
        obtain ⟨t0, ht⟩ := ev_tys_at ct (ty := .byte) (by decide)
        exact va_bast hx hb hK hP hD hS _ t0 (ev_w_get hE) ht (ev_in_t h1) hd (fun H1 locs1 hP1 hD1 hS1 => k H1 locs1 (by rw [← ev_w_set]; exact hP1) (by rw [← ev_w_set]; exact hD1) hS1)
      · cases h
    · rename_i hE
      split at h
      · rename_i h1
        cases h
        obtain ⟨t0, ht⟩ := ev_tys_at ct (ty := .boolean) (by decide)
        exact va_zast hx hb hK hP hD hS _ t0 (ev_w_get hE) ht (ev_in_t h1) hd (fun H1 locs1 hP1 hD1 hS1 => k H1 locs1 (by rw [← ev_w_set]; exact hP1) (by rw [← ev_w_set]; exact hD1) hS1)
      · cases h
    · cases h
  · cases h
end EVS
