/-- constants of the pool -/
def ev_const (ck : Nat → Option Value) : Instr → Nat → List Value → Option (List Value)
  | .ldc i, 2, st => match ck i with | some (.int v) => some (.int v :: st) | some (.ref a) => some (.ref a :: st) | _ => none
  | .ldc_w i, 3, st => match ck i with | some (.int v) => some (.int v :: st) | some (.ref a) => some (.ref a :: st) | _ => none
  | .ldc2_w i, 3, st => match ck i with | some (.long v) => some (.long v :: st) | _ => none
  | _, _, _ => none
def ev_CK (Ts : List Jvm.Cond) (own : String) (ck : Nat → Option Value) : Prop := (∀ (i : Nat) (v : Int32), ck i = some (.int v) → Jvm.Cond.constant own i v ∈ Ts) ∧ ∀ (i : Nat) (v : Int64), ck i = some (.long v) → Jvm.Cond.constantLong own i v ∈ Ts
section EVC
variable {p : Program} {l : Launch} {e : Env} {R : Room} {s : State} {m : MethodId} {args : Array Value} {below : List Frame} {meth : Method} {c : Code} {H : Heap} {locs : List Loc} {cells slots : Nat} {Q : State → Prop}
theorem ev_const_W {cc : ByteArray} (hx : p.tables.exec = Jvm.exec) (hb : c.code = cc) {Ts : List Jvm.Cond} {own : String} {ck : Nat → Option Value} (hts : ∀ w ∈ Ts, w.before args s = true) (hown : s.vm.findClass own = some m.cls) (hck : ev_CK Ts own ck)
    {ad : Nat → Nat} {pc len : Nat} {ins : Instr} {st st' : List Value} {ls : Array Slot} (hd : decode cc pc = .ok (ins, len)) (h : ev_const ck ins len st = some st')
    (k : W p l e R s m args below meth c H locs cells slots Q (F0 m (pc + len) ls (ev_s ad st'))) : W p l e R s m args below meth c H locs cells slots Q (F0 m pc ls (ev_s ad st)) := by
  unfold ev_const at h
  split at h
  · split at h
    · rename_i h1; cases h; exact lv_ldc hx hb hown (hts _ (hck.1 _ _ h1)) hd k
    · cases h; sorry
    · cases h
  · split at h
    · rename_i h1; cases h; exact lv_ldcw hx hb hown (hts _ (hck.1 _ _ h1)) hd k
    · cases h; sorry
    · cases h
  · split at h
    · rename_i h1; cases h; exact lv_ldc2 hx hb hown (hts _ (hck.2 _ _ h1)) hd k
    · cases h
  · cases h
end EVC
