/-! the world: arrays by their component type, objects by the number of their class; references are places -/
abbrev ev_C : Type := (FieldType × vp_A) ⊕ (Nat × List Value)
def ev_a (ad : Nat → Nat) (a : vp_A) : vp_A := match a with
  | (n, .inr (.inr (.inr (.inr f)))) => (n, .inr (.inr (.inr (.inr (fun j => (f j).map ad)))))
  | a => a
def ev_x (ad : Nat → Nat) (ct : FieldType → ClassId) (x : ev_C) : va_E := match x with
  | .inl (ty, a) => .inl (ct ty, ev_a ad a)
  | .inr (ci, fs) => .inr (ci, fs.map (ev_v ad))
def ev_w (ad : Nat → Nat) (ct : FieldType → ClassId) (E : List ev_C) : va_W := E.mapIdx (fun k x => (ad k, ev_x ad ct x))
theorem ev_w_get {ad : Nat → Nat} {ct : FieldType → ClassId} {E : List ev_C} {k : Nat} {x : ev_C} (h : E[k]? = some x) : (ev_w ad ct E)[k]? = some (ad k, ev_x ad ct x) := by
  unfold ev_w
  rw [List.getElem?_mapIdx, h]
  rfl
theorem ev_w_set {ad : Nat → Nat} {ct : FieldType → ClassId} {E : List ev_C} {k : Nat} {y : ev_C} : (ev_w ad ct E).set k (ad k, ev_x ad ct y) = ev_w ad ct (E.set k y) := by
  unfold ev_w
  refine List.ext_getElem? fun i => ?_
  simp only [List.getElem?_set, List.getElem?_mapIdx, List.length_mapIdx]
  split
  · rename_i h1
    subst h1
    split <;> simp_all
  · rfl
/-- the array classes that worlds may hold -/
def ev_tyl : List FieldType := [.int, .long, .byte, .char, .boolean, .array .int]
def ev_tys (ct : FieldType → ClassId) : List (ClassId × FieldType) := ev_tyl.map (fun t => (ct t, t))
theorem ev_tys_at (ct : FieldType → ClassId) {ty : FieldType} (h : ty ∈ ev_tyl) : ∃ k : Nat, (ev_tys ct)[k]? = some (ct ty, ty) := by
  obtain ⟨k, hk⟩ := List.mem_iff_getElem?.mp h
  exact ⟨k, by rw [ev_tys, List.getElem?_map, hk]; rfl⟩
def ev_in (i : Int32) (n : Nat) : Bool := decide (¬ (i < 0 ∨ n ≤ i.toNatClampNeg))
/-- instructions that look at the world and leave it -/
def ev_look (fl : Nat → Option (Nat × Nat)) : Instr → Nat → List Value → List ev_C → Option (List Value)
  | .getfield i, 3, .ref a :: st, E => match fl i, E[a]? with
    | some (ci, k), some (.inr (ci', fs)) => if ci' = ci then (fs[k]?).map (fun v => v :: st) else none
    | _, _ => none
  | .iaload, 1, .int i :: .ref a :: st, E => match E[a]? with
    | some (.inl (.int, n, .inl f)) => if ev_in i n = true then some (.int (f i.toNatClampNeg) :: st) else none
    | _ => none
  | .laload, 1, .int i :: .ref a :: st, E => match E[a]? with
    | some (.inl (.long, n, .inr (.inl f))) => if ev_in i n = true then some (.long (f i.toNatClampNeg) :: st) else none
    | _ => none
  | .caload, 1, .int i :: .ref a :: st, E => match E[a]? with
    | some (.inl (.char, n, .inl f)) => if ev_in i n = true then some (.int (f i.toNatClampNeg) :: st) else none
    | _ => none
  | .baload, 1, .int i :: .ref a :: st, E => match E[a]? with
    | some (.inl (.byte, n, .inl f)) => if ev_in i n = true then some (.int (f i.toNatClampNeg) :: st) else none
    | some (.inl (.boolean, n, .inl f)) => if ev_in i n = true then some (.int (f i.toNatClampNeg) :: st) else none
    | _ => none
  | .arraylength, 1, .ref a :: st, E => match E[a]? with
    | some (.inl (ty, x)) => if ty ∈ ev_tyl then some (.int (Int32.ofNat x.1) :: st) else none
    | _ => none
  | _, _, _, _ => none
