set_option maxHeartbeats 4000000 in
/-- more fuel keeps the answer -/
theorem ev_more1 {X : Nat → Option (List Int32)} {L : Nat → Option ev_M} : ∀ (n y pc : Nat) (lv : List (Nat × Value)) (st : List Value) (E : List ev_C) (r : ev_R), ev_run X L n y pc lv st E = some r → ev_run X L (n + 1) y pc lv st E = some r := by
  intro n
  induction n with
  | zero => intro y pc lv st E r h; exact absurd h (by unfold ev_run; intro q; cases q)
  | succ n ih =>
    intro y pc lv st E r h
    unfold ev_run at h ⊢
    split at h
    · cases h
    · split at h
      · cases h
      · split at h
        · exact ih _ _ _ _ _ _ h
        · split at h
          · exact ih _ _ _ _ _ _ h
          · split at h
            · exact ih _ _ _ _ _ _ h
            · split at h
              · exact ih _ _ _ _ _ _ h
              · split at h
                · exact ih _ _ _ _ _ _ h
                · split at h
                  · exact h
                  · split at h
                    · split at h
                      · rename_i hsum
                        rw [if_pos hsum]
                        split at h
                        · split at h
                          · cases h
                          · split at h
                            · cases h
                            · rename_i h3
                              rw [ih _ _ _ _ _ _ h3]
                              exact h
                        · split at h
                          · rename_i hlen
                            rw [if_pos hlen]
                            split at h
                            · cases h
                            · rename_i h2
                              rw [ih _ _ _ _ _ _ h2]
                              dsimp only
                              split at h
                              · cases h
                              · rename_i h3
                                rw [ih _ _ _ _ _ _ h3]
                                exact h
                          · cases h
                      · cases h
                    · cases h
theorem ev_more {X : Nat → Option (List Int32)} {L : Nat → Option ev_M} {n k y pc : Nat} {lv : List (Nat × Value)} {st : List Value} {E : List ev_C} {r : ev_R} (h : ev_run X L n y pc lv st E = some r) : ev_run X L (n + k) y pc lv st E = some r := by
  induction k with
  | zero => exact h
  | succ k ih => exact ev_more1 _ _ _ _ _ _ _ ih
