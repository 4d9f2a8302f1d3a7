/-! the world: arrays by their component type, objects by the number of their class; references are places -/
abbrev ev_C : Type := (FieldType × vp_A) ⊕ (Nat × List Value)
def ev_a (ad : Nat → Nat) (a : vp_A) : vp_A := match a with
  | (n, .inr (.inr (.inr (.inr f)))) => (n, .inr (.inr (.inr (.inr (fun j => (f j).map ad)))))
  | a => a
def ev_x (ad : Nat → Nat) (ct : FieldType → ClassId) (x : ev_C) : va_E := match x with
  | .inl (ty, a) => .inl (ct ty, ev_a ad a)
  | .inr (ci, fs) => .inr (ci, fs.map (ev_v ad))
def ev_w (ad : Nat → Nat) (ct : FieldType → ClassId) (E : List ev_C) : va_W := E.mapIdx (fun k x => (ad k, ev_x ad ct x))
theorem ev_w_get {ad : Nat → Nat} {ct : FieldType → ClassId} {E : List ev_C} {k : Nat} {x : ev_C} (h : E[k]? = some x) : (ev_w ad ct E)[k]? = some (ad k, ev_x ad ct x) := by
  unfold ev_w
  rw [List.getElem?_mapIdx, h]
  rfl
theorem ev_w_set {ad : Nat → Nat} {ct : FieldType → ClassId} {E : List ev_C} {k : Nat} {y : ev_C} : (ev_w ad ct E).set k (ad k, ev_x ad ct y) = ev_w ad ct (E.set k y) := by
  unfold ev_w
  refine List.ext_getElem? fun i => ?_
  simp only [List.getElem?_set, List.getElem?_mapIdx, List.length_mapIdx]
  split
  · rename_i h1
    subst h1
    split <;> simp_all
  · rfl
/-- the array classes that worlds may hold -/
def ev_tyl : List FieldType := [.int, .long, .byte, .char, .boolean, .array .int]
def ev_tys (ct : FieldType → ClassId) : List (ClassId × FieldType) := ev_tyl.map (fun t => (ct t, t))
theorem ev_tys_at (ct : FieldType → ClassId) {ty : FieldType} (h : ty ∈ ev_tyl) : ∃ k : Nat, (ev_tys ct)[k]? = some (ct ty, ty) := by
  obtain ⟨k, hk⟩ := List.mem_iff_getElem?.mp h
  exact ⟨k, by rw [ev_tys, List.getElem?_map, hk]; rfl⟩
def ev_in (i : Int32) (n : Nat) : Bool := decide (¬ (i < 0 ∨ n ≤ i.toNatClampNeg))
/-- instructions that look at the world and leave it -/
def ev_look (fl : Nat → Option (Nat × Nat)) : Instr → Nat → List Value → List ev_C → Option (List Value)
  | .getfield i, 3, .ref a :: st, E => match fl i, E[a]? with
    | some (ci, k), some (.inr (ci', fs)) => if ci' = ci then (fs[k]?).map (fun v => v :: st) else none
    | _, _ => none
  | .iaload, 1, .int i :: .ref a :: st, E => match E[a]? with
    | some (.inl (.int, n, .inl f)) => if ev_in i n = true then some (.int (f i.toNatClampNeg) :: st) else none
    | _ => none
  | .laload, 1, .int i :: .ref a :: st, E => match E[a]? with
    | some (.inl (.long, n, .inr (.inl f))) => if ev_in i n = true then some (.long (f i.toNatClampNeg) :: st) else none
    | _ => none
  | .caload, 1, .int i :: .ref a :: st, E => match E[a]? with
    | some (.inl (.char, n, .inl f)) => if ev_in i n = true then some (.int (f i.toNatClampNeg) :: st) else none
    | _ => none
  | .baload, 1, .int i :: .ref a :: st, E => match E[a]? with
    | some (.inl (.byte, n, .inl f)) => if ev_in i n = true then some (.int (f i.toNatClampNeg) :: st) else none
    | some (.inl (.boolean, n, .inl f)) => if ev_in i n = true then some (.int (f i.toNatClampNeg) :: st) else none
    | _ => none
  | .arraylength, 1, .ref a :: st, E => match E[a]? with
    | some (.inl (ty, x)) => if ty ∈ ev_tyl then some (.int (Int32.ofNat x.1) :: st) else none
    | _ => none
  | _, _, _, _ => none
/-- what the tables say of a method's field words -/
def ev_FL (Ts : List Jvm.Cond) (cl : List vw_C) (own : String) (fl : Nat → Option (Nat × Nat)) : Prop :=
  ∀ i ci k : Nat, fl i = some (ci, k) → ∃ (C : String) (T : u_T) (N : Nat), cl[ci]? = some (C, T, N) ∧ k < N ∧ (∀ w ∈ u_ws C T N, w ∈ Ts) ∧ Jvm.Cond.fieldLink own i C (T k).2.1 (T k).2.2.1 ∈ Ts ∧ (T k).1 = C
section EVM
variable {p : Program} {l : Launch} {e : Env} {R : Room} {s : State} {m : MethodId} {args : Array Value} {below : List Frame} {meth : Method} {c : Code} {H : Heap} {locs : List Loc} {cells slots : Nat} {Q : State → Prop}
theorem ev_in_t {i : Int32} {n : Nat} (h : ev_in i n = true) : vp_in i n := by
  have h1 : ¬ (i < 0 ∨ n ≤ i.toNatClampNeg) := of_decide_eq_true h
  exact h1
set_option maxHeartbeats 4000000 in
theorem ev_look_W {cc : ByteArray} (hx : p.tables.exec = Jvm.exec) (hb : c.code = cc) {D : va_G} {cl : List vw_C} {Ts : List Jvm.Cond} {own : String} {fl : Nat → Option (Nat × Nat)} (hts : ∀ w ∈ Ts, w.before args s = true) (hown : s.vm.findClass own = some m.cls) (hfl : ev_FL Ts cl own fl)
    {ad : Nat → Nat} {ct : FieldType → ClassId} {E : List ev_C} (hK : va_K D cl (ev_tys ct) s) (hP : va_P D cl (ev_w ad ct E) H) {pc len : Nat} {ins : Instr} {st st' : List Value} {ls : Array Slot} (hd : decode cc pc = .ok (ins, len)) (h : ev_look fl ins len st E = some st')
    (k : W p l e R s m args below meth c H locs cells slots Q (F0 m (pc + len) ls (ev_s ad st'))) : W p l e R s m args below meth c H locs cells slots Q (F0 m pc ls (ev_s ad st)) := by
  unfold ev_look at h
  split at h
  · split at h
    · rename_i hf hE
      split at h
      · rename_i hci
        subst hci
        rw [Option.map_eq_some_iff] at h
        obtain ⟨v, hv, rfl⟩ := h
        obtain ⟨C, T, N, hc, hk, hin, hlink, hdecl⟩ := hfl _ _ _ hf
        exact va_get hx hb hts hin hown hK hP _ (ev_w_get hE) hc _ hk (hts _ hlink) (fun x h9 => by rw [hdecl] at h9; exact h9) (v := ev_v ad v) (by rw [List.getElem?_map, hv]; rfl) hd k
      · cases h
    · cases h
  · split at h
    · rename_i hE
      split at h
      · rename_i h1
        cases h
        obtain ⟨t0, ht⟩ := ev_tys_at ct (ty := .int) (by decide)
        exact va_iald hx hb hK hP _ t0 (ev_w_get hE) ht (ev_in_t h1) hd k
      · cases h
    · cases h
  · split at h
    · rename_i hE
      split at h
      · rename_i h1
        cases h
        obtain ⟨t0, ht⟩ := ev_tys_at ct (ty := .long) (by decide)
        exact va_lald hx hb hK hP _ t0 (ev_w_get hE) ht (ev_in_t h1) hd k
      · cases h
    · cases h
  · split at h
    · rename_i hE
      split at h
      · rename_i h1
        cases h
        obtain ⟨t0, ht⟩ := ev_tys_at ct (ty := .char) (by decide)
        exact va_cald hx hb hK hP _ t0 (ev_w_get hE) ht (ev_in_t h1) hd k
      · cases h
    · cases h
  · split at h
    · rename_i hE
      split at h
      · rename_i h1
        cases h
        obtain ⟨t0, ht⟩ := ev_tys_at ct (ty := .byte) (by decide)
        exact va_bald hx hb hK hP _ t0 (ev_w_get hE) ht (ev_in_t h1) hd k
      · cases h
    · rename_i hE
      split at h
      · rename_i h1
        cases h
        obtain ⟨t0, ht⟩ := ev_tys_at ct (ty := .boolean) (by decide)
        exact va_zald hx hb hK hP _ t0 (ev_w_get hE) ht (ev_in_t h1) hd k
      · cases h
    · cases h
  · split at h
    · rename_i hE
      split at h
      · rename_i h1
        cases h
        obtain ⟨t0, ht⟩ := ev_tys_at ct h1
        refine va_alen hx hb hK hP _ t0 (ev_w_get hE) ht ?_ hd k
        unfold ev_a
        split <;> rfl
      · cases h
    · cases h
  · cases h
end EVM
