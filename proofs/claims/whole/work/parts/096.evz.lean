theorem ev_l_args (ad : Nat → Nat) : ∀ (as : List Value) (i : Nat), lv_args i (ev_s ad as) = ev_l ad (lv_args i as)
  | [], _ => rfl
  | v :: vs, i => by
    show (i, ev_v ad v) :: lv_args _ (ev_s ad vs) = (i, ev_v ad v) :: ev_l ad (lv_args _ vs)
    rw [ev_v_cat, ev_l_args ad vs]
set_option maxHeartbeats 8000000 in
theorem ev_sound {l : Launch} {B : List Jvm.Cond} {cl : List vw_C} {L : Nat → Option ev_M} {D : va_G} {ct : FieldType → ClassId} {ad : Nat → Nat} (hOK : ev_OK B cl L) :
    ∀ (n y pc : Nat) (lv : List (Nat × Value)) (st : List Value) (E : List ev_C) (v : Option Value) (E' : List ev_C) (f w : Nat), ev_run L n y pc lv st E = some (v, E', f, w) → ∀ M : ev_M, L y = some M →
    ∀ {p : Program} {e : Env} {R : Room} {s : State} {m : MethodId} {args : Array Value} {below : List Frame} {meth : Method} {c : Code} {H : Heap} {locs : List Loc} {ls : Array Slot} {A : Nat → Prop}, p.tables.exec = Jvm.exec → c.code = M.1.2.1 → meth.sig.returnType = M.1.2.2.2 → meth.locks = false → c.maxLocals = M.1.2.2.1 → s.vm.findClass M.1.1.cls = some m.cls → (∀ w ∈ ev_ws B M, w.before args s = true) → f ≤ R.frames → w ≤ R.locals →
    va_K D cl (ev_tys ct) s → va_P D cl (ev_w ad ct E) H → va_D A (ev_w ad ct E) → va_S A s.heap H locs → (∀ q, s.heap.size ≤ q → A q) → lv_has ls M.1.2.2.1 (ev_l ad lv) →
    W p l e R s m args below meth c H locs 0 0 (MQ below (ev_Qc D cl ad ct A v E') args s 0 0 A) (F0 m pc ls (ev_s ad st)) := by
  intro n
  induction n with
  | zero => intro y pc lv st E v E' f w h; cases h
  | succ n ih =>
    intro y pc lv st E v E' f w h M hM p e R s m args below meth c H locs ls A hx hb hr hlocks hml hown hts hf hw hK hP hD hS hA hl
    have hO := hOK.2 y M hM
    have hts' : ∀ w ∈ B, w.before args s = true := fun w hw => hts w (List.mem_cons_of_mem _ hw)
    unfold ev_run at h
    rw [hM] at h
    dsimp only at h
    split at h
    · cases h
    · rename_i ins len hd
      split at h
      · rename_i lv' st' h1
        exact ev_pure_W hx hb hl hd h1 (fun ls' hl' => ih _ _ _ _ _ _ _ _ _ h M hM hx hb hr hlocks hml hown hts hf hw hK hP hD hS hA hl')
      · split at h
        · rename_i h1
          exact ev_jump_W hx hb hd h1 (ih _ _ _ _ _ _ _ _ _ h M hM hx hb hr hlocks hml hown hts hf hw hK hP hD hS hA hl)
        · split at h
          · rename_i h1
            exact ev_look_W hx hb hts' hown hO.2.2.1 hK hP hd h1 (ih _ _ _ _ _ _ _ _ _ h M hM hx hb hr hlocks hml hown hts hf hw hK hP hD hS hA hl)
          · split at h
            · rename_i h1
              exact ev_const_W hx hb hts' hown hO.2.2.2.2.1 hd h1 (ih _ _ _ _ _ _ _ _ _ h M hM hx hb hr hlocks hml hown hts hf hw hK hP hD hS hA hl)
            · split at h
              · rename_i h1
                exact ev_store_W hx hb hts' hown hO.2.2.2.1 (fun q => by cases q) hK hP hD hS hd h1 (fun H1 locs1 hP1 hD1 hS1 => ih _ _ _ _ _ _ _ _ _ h M hM hx hb hr hlocks hml hown hts hf hw hK hP1 hD1 hS1 hA hl)
              · split at h
                · rename_i h1
                  cases h
                  exact ev_ret_W hx hb hr hlocks hK hP hD hS hd h1
                · split at h
                  · rename_i h1
                    sorry
                  · cases h
