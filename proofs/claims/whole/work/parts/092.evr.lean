/-- what a method returns -/
def ev_ret (ret : Option FieldType) : Instr → Nat → List Value → Option (Option Value)
  | .ireturn, 1, [.int v] => match ret with
    | some ty => if narrow ty (.int v) = .int v then some (some (.int v)) else none
    | none => none
  | .lreturn, 1, [.long v] => if ret = some .long then some (some (.long v)) else none
  | .return_, 1, [] => if ret = none then some none else none
  | _, _, _ => none
/-- how a contract ends: the answer, the world behind it, what isn't its own as before -/
def ev_Qc (D : va_G) (cl : List vw_C) (ad : Nat → Nat) (ct : FieldType → ClassId) (A : Nat → Prop) (v : Option Value) (E : List ev_C) : Array Value → State → Outcome → State → Prop := fun _ st oc t =>
  (oc = .returned (v.map (ev_v ad)) ∧ va_P D cl (ev_w ad ct E) t.heap ∧ va_K D cl (ev_tys ct) t ∧ va_D A (ev_w ad ct E)) ∧ va_F A st t
section EVR
variable {p : Program} {l : Launch} {e : Env} {R : Room} {s : State} {m : MethodId} {args : Array Value} {below : List Frame} {meth : Method} {c : Code} {H : Heap} {locs : List Loc} {cells slots : Nat} {Q : State → Prop}
theorem ev_ret_W {cc : ByteArray} (hx : p.tables.exec = Jvm.exec) (hb : c.code = cc) {ret : Option FieldType} (hr : meth.sig.returnType = ret) (hlocks : meth.locks = false) {D : va_G} {cl : List vw_C} {ad : Nat → Nat} {ct : FieldType → ClassId} {E : List ev_C} {A : Nat → Prop} (hK : va_K D cl (ev_tys ct) s) (hP : va_P D cl (ev_w ad ct E) H) (hD : va_D A (ev_w ad ct E)) (hS : va_S A s.heap H locs)
    {pc len : Nat} {ins : Instr} {st : List Value} {v : Option Value} {ls : Array Slot} (hd : decode cc pc = .ok (ins, len)) (h : ev_ret ret ins len st = some v) :
    W p l e R s m args below meth c H locs cells slots (MQ below (ev_Qc D cl ad ct A v E) args s cells slots A) (F0 m pc ls (ev_s ad st)) := by
  have hq : ∀ t : State, t.heap = H → s.WarmedH t.vm → ev_Qc D cl ad ct A v E args s (.returned (v.map (ev_v ad))) t := fun t ht hW => ⟨⟨rfl, by rw [ht]; exact hP, va_K.moved hW.alike hK, hD⟩, hS.F ht⟩
  unfold ev_ret at h
  split at h
  · split at h
    · split at h
      · rename_i h1; cases h; exact W.zret hx hb hr h1 hq hS.2.2 hd hlocks
      · cases h
    · cases h
  · split at h
    · rename_i h1; cases h; exact W.lret hx hb (hr.trans h1) hq hS.2.2 hd hlocks
    · cases h
  · split at h
    · rename_i h1; cases h; exact W.vret hx hb (hr.trans h1) hq hS.2.2 hd hlocks
    · cases h
  · cases h
end EVR
