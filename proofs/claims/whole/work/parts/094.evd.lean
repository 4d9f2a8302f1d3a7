/-! THE INTERPRETER -/
/-- a method: name, code, locals, type, what its field words, constants and calls mean -/
abbrev ev_M : Type := (MethodName × ByteArray × Nat × Option FieldType) × (Nat → Option (Nat × Nat)) × (Nat → Option (Nat × Nat × FieldType × Bool)) × (Nat → Option Value) × (Nat → Option (Option Nat × Nat × Nat))
/-- a call: the callee's number, its arguments, what stays on the stack; of an object's method the object's class is told -/
def ev_inv (iv : Nat → Option (Option Nat × Nat × Nat)) : Instr → Nat → List Value → List ev_C → Option (Nat × List Value × List Value)
  | .invokevirtual i, 3, st, E => match iv i with
    | some (some ci, k, n) => match st.drop n with
      | .ref b :: rest => if ci = 999 then some (k, .ref b :: (st.take n).reverse, rest) else match E[b]? with
        | some (.inr (ci', _)) => if ci' = ci then some (k, .ref b :: (st.take n).reverse, rest) else none
        | _ => none
      | _ => none
    | _ => none
  | .invokestatic i, 3, st, _ => match iv i with
    | some (none, k, n) => if n ≤ st.length then some (k, (st.take n).reverse, st.drop n) else none
    | _ => none
  | _, _, _, _ => none
/-- how many bits are set, as Long.bitCount reckons -/
def ev_bc (x : Int64) : Int32 := Int32.ofNat ((List.range 64).filter (fun k => x.toBitVec.getLsbD k)).length
/-- calls of methods that are no bytecode here: 1000 String.charAt, 1001 String.length, 1002 Long.bitCount, 1003 the reference's longer. Answer, world, frames, words, cells, slots. -/
def ev_ext (X : Nat → Option (List Int32)) : Nat → List Value → List ev_C → Option (Option Value × List ev_C × Nat × Nat × Nat × Nat)
  | 1000, [.ref p, .int k], E => match X p with
    | some b => if ev_in k b.length = true then some (some (.int (b.getD k.toNatClampNeg 0)), E, 3, 100, 0, 0) else none
    | none => none
  | 1001, [.ref p], E => match X p with
    | some b => some (some (.int (Int32.ofNat b.length)), E, 1, 50, 0, 0)
    | none => none
  | 1002, [.long x], E => some (some (.int (ev_bc x)), E, 0, 50, 0, 0)
  | 1003, [.ref a], E => match E[a]? with
    | some (.inl (.int, n, .inl f)) => if n < 500000 then some (some (.ref E.length), E ++ [.inl (.int, 2 * n, .inl (fun j => if j < n then f j else 0))], 1, 50, 1, 2 * n) else none
    | _ => none
  | _, _, _ => none
/-- the answer, the world then, the most frames and words that it took, the cells and slots that it made -/
abbrev ev_R : Type := Option Value × List ev_C × Nat × Nat × Nat × Nat
def ev_run (X : Nat → Option (List Int32)) (L : Nat → Option ev_M) : Nat → Nat → Nat → List (Nat × Value) → List Value → List ev_C → Option ev_R
  | 0, _, _, _, _, _ => none
  | n + 1, y, pc, lv, st, E => match L y with
    | none => none
    | some M => match decode M.1.2.1 pc with
      | .error _ => none
      | .ok (ins, len) => match ev_pure M.1.2.2.1 lv ins len st with
        | some (lv', st') => ev_run X L n y (pc + len) lv' st' E
        | none => match ev_jump pc ins len st with
          | some (pc', st') => ev_run X L n y pc' lv st' E
          | none => match ev_look M.2.1 ins len st E with
            | some st' => ev_run X L n y (pc + len) lv st' E
            | none => match ev_const M.2.2.2.1 ins len st with
              | some st' => ev_run X L n y (pc + len) lv st' E
              | none => match ev_store M.2.2.1 false ins len st E with
                | some (st', E') => ev_run X L n y (pc + len) lv st' E'
                | none => match ev_ret M.1.2.2.2 ins len st with
                  | some v => some (v, E, 0, 0, 0, 0)
                  | none => match ev_inv M.2.2.2.2 ins len st E with
                    | some (z, as, rest) => if (rest.map fun v => v.category).sum ≤ 8 then match L z with
                      | none => match ev_ext X z as E with
                        | none => none
                        | some (v, E1, f1, w1, c1, s1) => match ev_run X L n y (pc + 3) lv (v.toList ++ rest) E1 with
                          | none => none
                          | some (u, E2, f2, w2, c2, s2) => some (u, E2, max (f1 + 1) f2, max w1 w2, c1 + c2, s1 + s2)
                      | some N => if (lg_sl as).length ≤ N.1.2.2.1 then match ev_run X L n z 0 (lv_args 0 as) [] E with
                        | none => none
                        | some (v, E1, f1, w1, c1, s1) => match ev_run X L n y (pc + 3) lv (v.toList ++ rest) E1 with
                          | none => none
                          | some (u, E2, f2, w2, c2, s2) => some (u, E2, max (f1 + 1) f2, max (8 + (N.1.2.2.1 + 11) + w1) w2, c1 + c2, s1 + s2)
                        else none
                      else none
                    | none => none
