
/-! CODE THAT IS BEING MADE. sm_ci: an instruction by its numbers: op a b; H T D L height, open TRY, how many, open list; hT hL their heights, tT lL what is around them; k its place; aA the function around a's, f its own; H1 T1 L1 next; jH jT jL its mark's -/
def sm_ci (op a b H T D L hT hL tT lL k si nf ns aA f H1 T1 L1 jH jT jL : Int) : Prop :=
  (op = 0 → (0 ≤ a ∧ a ≤ 6 ∧ (a = 6 → 0 ≤ b ∧ b < ns)) ∧ (0 ≤ H ∧ (0 ≤ T → hT ≤ H) ∧ (0 ≤ L → hL ≤ H)) ∧ (H1 = H + 1 ∧ T1 = T ∧ L1 = L)) ∧
  ((op = 1 ∨ op = 3 ∨ op = 5) → (0 ≤ a ∧ 0 ≤ b ∧ b < ns) ∧ (0 ≤ H ∧ (0 ≤ T → hT ≤ H) ∧ (0 ≤ L → hL ≤ H)) ∧ (H1 = H + 1 ∧ T1 = T ∧ L1 = L)) ∧
  ((op = 2 ∨ op = 4) → (0 ≤ a ∧ 0 ≤ b ∧ b < ns) ∧ (0 ≤ H - 1 ∧ (0 ≤ T → hT ≤ H - 1) ∧ (0 ≤ L → hL ≤ H - 1)) ∧ (H1 = H ∧ T1 = T ∧ L1 = L)) ∧
  (op = 6 → (0 ≤ H ∧ (0 ≤ T → hT ≤ H) ∧ (0 ≤ L → hL ≤ H)) ∧ (H1 = H + 1 ∧ T1 = T ∧ L1 = L)) ∧
  ((op = 7 ∨ op = 8) → (0 ≤ a ∧ a < si) ∧ (0 ≤ H ∧ (0 ≤ T → hT ≤ H) ∧ (0 ≤ L → hL ≤ H)) ∧ (H1 = H + 1 ∧ T1 = T ∧ L1 = L)) ∧
  (op = 9 → (1 ≤ a ∧ a < nf ∧ aA = f) ∧ (0 ≤ H ∧ (0 ≤ T → hT ≤ H) ∧ (0 ≤ L → hL ≤ H)) ∧ (H1 = H + 1 ∧ T1 = T ∧ L1 = L)) ∧
  ((op = 10 ∨ op = 12) → (0 ≤ H - 2 ∧ (0 ≤ T → hT ≤ H - 2) ∧ (0 ≤ L → hL ≤ H - 2)) ∧ (H1 = H - 1 ∧ T1 = T ∧ L1 = L)) ∧
  (op = 11 → (0 ≤ H - 3 ∧ (0 ≤ T → hT ≤ H - 3) ∧ (0 ≤ L → hL ≤ H - 3)) ∧ (H1 = H - 2 ∧ T1 = T ∧ L1 = L)) ∧
  (op = 13 → (0 ≤ a ∧ a ≤ 4) ∧ (0 ≤ H - 1 ∧ (0 ≤ T → hT ≤ H - 1) ∧ (0 ≤ L → hL ≤ H - 1)) ∧ (H1 = H ∧ T1 = T ∧ L1 = L)) ∧
  (op = 14 → (0 ≤ a ∧ a ≤ 20) ∧ (0 ≤ H - 2 ∧ (0 ≤ T → hT ≤ H - 2) ∧ (0 ≤ L → hL ≤ H - 2)) ∧ (H1 = H - 1 ∧ T1 = T ∧ L1 = L)) ∧
  (op = 15 → (0 ≤ a ∧ a ≤ 8) ∧ (0 ≤ H - a - 2 ∧ (0 ≤ T → hT ≤ H - a - 2) ∧ (0 ≤ L → hL ≤ H - a - 2)) ∧ (H1 = H - a - 1 ∧ T1 = T ∧ L1 = L)) ∧
  (op = 16 → (0 ≤ a ∧ a ≤ 8 ∧ 0 ≤ b ∧ b < si) ∧ (0 ≤ H - a - 1 ∧ (0 ≤ T → hT ≤ H - a - 1) ∧ (0 ≤ L → hL ≤ H - a - 1)) ∧ (H1 = H - a ∧ T1 = T ∧ L1 = L)) ∧
  (op = 17 → 1 ≤ H ∧ (0 ≤ T → hT ≤ H - 1) ∧ ((0 ≤ L ∧ hL = H ∧ H1 = H - 1 ∧ T1 = T ∧ L1 = lL) ∨ ((0 ≤ L → hL ≤ H - 1) ∧ H1 = H - 1 ∧ T1 = T ∧ L1 = L))) ∧
  (op = 18 → (0 ≤ H - 1 ∧ (0 ≤ T → hT ≤ H - 1) ∧ (0 ≤ L → hL ≤ H - 1)) ∧ (H1 = H + 1 ∧ T1 = T ∧ L1 = L)) ∧
  (op = 19 → (H ≤ k) ∧ (0 ≤ H - 2 ∧ (0 ≤ T → hT ≤ H - 2) ∧ (0 ≤ L → hL ≤ H - 2)) ∧ (H1 = H + 2 ∧ T1 = T ∧ L1 = L)) ∧
  (op = 20 → (0 ≤ H - 3 ∧ (0 ≤ T → hT ≤ H - 3) ∧ (0 ≤ L → hL ≤ H - 3)) ∧ (H1 = H + 1 ∧ T1 = T ∧ L1 = L)) ∧
  (op = 21 → (0 ≤ H ∧ (0 ≤ T → hT ≤ H) ∧ (0 ≤ L → hL ≤ H)) ∧ (jH = H ∧ jT = T ∧ jL = L)) ∧
  (op = 22 → (0 ≤ H - 1 ∧ (0 ≤ T → hT ≤ H - 1) ∧ (0 ≤ L → hL ≤ H - 1)) ∧ (H1 = H - 1 ∧ T1 = T ∧ L1 = L) ∧ (jH = H - 1 ∧ jT = T ∧ jL = L)) ∧
  ((op = 23 ∨ op = 24) → (0 ≤ H - 1 ∧ (0 ≤ T → hT ≤ H - 1) ∧ (0 ≤ L → hL ≤ H - 1)) ∧ (H1 = H - 1 ∧ T1 = T ∧ L1 = L) ∧ (jH = H ∧ jT = T ∧ jL = L)) ∧
  ((op = 25 ∨ op = 26) → (0 ≤ H - 1 ∧ (0 ≤ T → hT ≤ H - 1) ∧ (0 ≤ L → hL ≤ H - 1))) ∧
  (op = 27 → (D < 40) ∧ (0 ≤ H ∧ (0 ≤ T → hT ≤ H) ∧ (0 ≤ L → hL ≤ H)) ∧ (H1 = H ∧ T1 = k ∧ L1 = L) ∧ (jH = H + 1 ∧ jT = T ∧ jL = L)) ∧
  (op = 28 → (0 ≤ T) ∧ (0 ≤ H ∧ (0 ≤ T → hT ≤ H) ∧ (0 ≤ L → hL ≤ H)) ∧ (H1 = H ∧ T1 = tT ∧ L1 = L)) ∧
  (op = 29 → (0 ≤ H - 1 ∧ (0 ≤ T → hT ≤ H - 1) ∧ (0 ≤ L → hL ≤ H - 1)) ∧ (H1 = H ∧ T1 = T ∧ L1 = k)) ∧
  (op = 30 → 0 ≤ L ∧ hL = H ∧ 1 ≤ H ∧ (0 ≤ T → hT ≤ H - 1) ∧ (H1 = H + 1 ∧ T1 = T ∧ L1 = L) ∧ (jH = H - 1 ∧ jT = T ∧ jL = lL))
def sm_dl (op a : Int) : Int := if op = 0 ∨ op = 1 ∨ op = 3 ∨ op = 5 ∨ op = 6 ∨ op = 7 ∨ op = 8 ∨ op = 9 ∨ op = 18 ∨ op = 20 ∨ op = 30 then 1 else if op = 19 then 2 else if op = 10 ∨ op = 12 ∨ op = 14 ∨ op = 17 ∨ op = 22 ∨ op = 23 ∨ op = 24 then -1 else if op = 11 then -2 else if op = 15 then -a - 1 else if op = 16 then -a else 0
def sm_nt (op k T tT : Int) : Int := if op = 27 then k else if op = 28 then tT else T
def sm_nd (op D : Int) : Int := if op = 27 then D + 1 else if op = 28 then D - 1 else D
def sm_nl (op k H L hL lL : Int) : Int := if op = 29 then k else if op = 17 ∧ 0 ≤ L ∧ hL = H then lL else L
theorem sm_dl_0 {a : Int} : sm_dl 0 a = 1 := by simp [sm_dl]
theorem sm_nt_0 {k T tT : Int} : sm_nt 0 k T tT = T := by simp [sm_nt]
theorem sm_nd_0 {D : Int} : sm_nd 0 D = D := by simp [sm_nd]
theorem sm_nl_0 {k H L hL lL : Int} : sm_nl 0 k H L hL lL = L := by simp [sm_nl]
theorem sm_dl_1 {a : Int} : sm_dl 1 a = 1 := by simp [sm_dl]
theorem sm_nt_1 {k T tT : Int} : sm_nt 1 k T tT = T := by simp [sm_nt]
theorem sm_nd_1 {D : Int} : sm_nd 1 D = D := by simp [sm_nd]
theorem sm_nl_1 {k H L hL lL : Int} : sm_nl 1 k H L hL lL = L := by simp [sm_nl]
theorem sm_dl_2 {a : Int} : sm_dl 2 a = 0 := by simp [sm_dl]
theorem sm_nt_2 {k T tT : Int} : sm_nt 2 k T tT = T := by simp [sm_nt]
theorem sm_nd_2 {D : Int} : sm_nd 2 D = D := by simp [sm_nd]
theorem sm_nl_2 {k H L hL lL : Int} : sm_nl 2 k H L hL lL = L := by simp [sm_nl]
theorem sm_dl_3 {a : Int} : sm_dl 3 a = 1 := by simp [sm_dl]
theorem sm_nt_3 {k T tT : Int} : sm_nt 3 k T tT = T := by simp [sm_nt]
theorem sm_nd_3 {D : Int} : sm_nd 3 D = D := by simp [sm_nd]
theorem sm_nl_3 {k H L hL lL : Int} : sm_nl 3 k H L hL lL = L := by simp [sm_nl]
theorem sm_dl_4 {a : Int} : sm_dl 4 a = 0 := by simp [sm_dl]
theorem sm_nt_4 {k T tT : Int} : sm_nt 4 k T tT = T := by simp [sm_nt]
theorem sm_nd_4 {D : Int} : sm_nd 4 D = D := by simp [sm_nd]
theorem sm_nl_4 {k H L hL lL : Int} : sm_nl 4 k H L hL lL = L := by simp [sm_nl]
theorem sm_dl_5 {a : Int} : sm_dl 5 a = 1 := by simp [sm_dl]
theorem sm_nt_5 {k T tT : Int} : sm_nt 5 k T tT = T := by simp [sm_nt]
theorem sm_nd_5 {D : Int} : sm_nd 5 D = D := by simp [sm_nd]
theorem sm_nl_5 {k H L hL lL : Int} : sm_nl 5 k H L hL lL = L := by simp [sm_nl]
theorem sm_dl_6 {a : Int} : sm_dl 6 a = 1 := by simp [sm_dl]
theorem sm_nt_6 {k T tT : Int} : sm_nt 6 k T tT = T := by simp [sm_nt]
theorem sm_nd_6 {D : Int} : sm_nd 6 D = D := by simp [sm_nd]
theorem sm_nl_6 {k H L hL lL : Int} : sm_nl 6 k H L hL lL = L := by simp [sm_nl]
theorem sm_dl_7 {a : Int} : sm_dl 7 a = 1 := by simp [sm_dl]
theorem sm_nt_7 {k T tT : Int} : sm_nt 7 k T tT = T := by simp [sm_nt]
theorem sm_nd_7 {D : Int} : sm_nd 7 D = D := by simp [sm_nd]
theorem sm_nl_7 {k H L hL lL : Int} : sm_nl 7 k H L hL lL = L := by simp [sm_nl]
theorem sm_dl_8 {a : Int} : sm_dl 8 a = 1 := by simp [sm_dl]
theorem sm_nt_8 {k T tT : Int} : sm_nt 8 k T tT = T := by simp [sm_nt]
theorem sm_nd_8 {D : Int} : sm_nd 8 D = D := by simp [sm_nd]
theorem sm_nl_8 {k H L hL lL : Int} : sm_nl 8 k H L hL lL = L := by simp [sm_nl]
theorem sm_dl_9 {a : Int} : sm_dl 9 a = 1 := by simp [sm_dl]
theorem sm_nt_9 {k T tT : Int} : sm_nt 9 k T tT = T := by simp [sm_nt]
theorem sm_nd_9 {D : Int} : sm_nd 9 D = D := by simp [sm_nd]
theorem sm_nl_9 {k H L hL lL : Int} : sm_nl 9 k H L hL lL = L := by simp [sm_nl]
theorem sm_dl_10 {a : Int} : sm_dl 10 a = -1 := by simp [sm_dl]
theorem sm_nt_10 {k T tT : Int} : sm_nt 10 k T tT = T := by simp [sm_nt]
theorem sm_nd_10 {D : Int} : sm_nd 10 D = D := by simp [sm_nd]
theorem sm_nl_10 {k H L hL lL : Int} : sm_nl 10 k H L hL lL = L := by simp [sm_nl]
theorem sm_dl_11 {a : Int} : sm_dl 11 a = -2 := by simp [sm_dl]
theorem sm_nt_11 {k T tT : Int} : sm_nt 11 k T tT = T := by simp [sm_nt]
theorem sm_nd_11 {D : Int} : sm_nd 11 D = D := by simp [sm_nd]
theorem sm_nl_11 {k H L hL lL : Int} : sm_nl 11 k H L hL lL = L := by simp [sm_nl]
theorem sm_dl_12 {a : Int} : sm_dl 12 a = -1 := by simp [sm_dl]
theorem sm_nt_12 {k T tT : Int} : sm_nt 12 k T tT = T := by simp [sm_nt]
theorem sm_nd_12 {D : Int} : sm_nd 12 D = D := by simp [sm_nd]
theorem sm_nl_12 {k H L hL lL : Int} : sm_nl 12 k H L hL lL = L := by simp [sm_nl]
theorem sm_dl_13 {a : Int} : sm_dl 13 a = 0 := by simp [sm_dl]
theorem sm_nt_13 {k T tT : Int} : sm_nt 13 k T tT = T := by simp [sm_nt]
theorem sm_nd_13 {D : Int} : sm_nd 13 D = D := by simp [sm_nd]
theorem sm_nl_13 {k H L hL lL : Int} : sm_nl 13 k H L hL lL = L := by simp [sm_nl]
theorem sm_dl_14 {a : Int} : sm_dl 14 a = -1 := by simp [sm_dl]
theorem sm_nt_14 {k T tT : Int} : sm_nt 14 k T tT = T := by simp [sm_nt]
theorem sm_nd_14 {D : Int} : sm_nd 14 D = D := by simp [sm_nd]
theorem sm_nl_14 {k H L hL lL : Int} : sm_nl 14 k H L hL lL = L := by simp [sm_nl]
theorem sm_dl_15 {a : Int} : sm_dl 15 a = -a - 1 := by simp [sm_dl]
theorem sm_nt_15 {k T tT : Int} : sm_nt 15 k T tT = T := by simp [sm_nt]
theorem sm_nd_15 {D : Int} : sm_nd 15 D = D := by simp [sm_nd]
theorem sm_nl_15 {k H L hL lL : Int} : sm_nl 15 k H L hL lL = L := by simp [sm_nl]
theorem sm_dl_16 {a : Int} : sm_dl 16 a = -a := by simp [sm_dl]
theorem sm_nt_16 {k T tT : Int} : sm_nt 16 k T tT = T := by simp [sm_nt]
theorem sm_nd_16 {D : Int} : sm_nd 16 D = D := by simp [sm_nd]
theorem sm_nl_16 {k H L hL lL : Int} : sm_nl 16 k H L hL lL = L := by simp [sm_nl]
theorem sm_dl_17 {a : Int} : sm_dl 17 a = -1 := by simp [sm_dl]
theorem sm_nt_17 {k T tT : Int} : sm_nt 17 k T tT = T := by simp [sm_nt]
theorem sm_nd_17 {D : Int} : sm_nd 17 D = D := by simp [sm_nd]
theorem sm_dl_18 {a : Int} : sm_dl 18 a = 1 := by simp [sm_dl]
theorem sm_nt_18 {k T tT : Int} : sm_nt 18 k T tT = T := by simp [sm_nt]
theorem sm_nd_18 {D : Int} : sm_nd 18 D = D := by simp [sm_nd]
theorem sm_nl_18 {k H L hL lL : Int} : sm_nl 18 k H L hL lL = L := by simp [sm_nl]
theorem sm_dl_19 {a : Int} : sm_dl 19 a = 2 := by simp [sm_dl]
theorem sm_nt_19 {k T tT : Int} : sm_nt 19 k T tT = T := by simp [sm_nt]
theorem sm_nd_19 {D : Int} : sm_nd 19 D = D := by simp [sm_nd]
theorem sm_nl_19 {k H L hL lL : Int} : sm_nl 19 k H L hL lL = L := by simp [sm_nl]
theorem sm_dl_20 {a : Int} : sm_dl 20 a = 1 := by simp [sm_dl]
theorem sm_nt_20 {k T tT : Int} : sm_nt 20 k T tT = T := by simp [sm_nt]
theorem sm_nd_20 {D : Int} : sm_nd 20 D = D := by simp [sm_nd]
theorem sm_nl_20 {k H L hL lL : Int} : sm_nl 20 k H L hL lL = L := by simp [sm_nl]
theorem sm_dl_21 {a : Int} : sm_dl 21 a = 0 := by simp [sm_dl]
theorem sm_nt_21 {k T tT : Int} : sm_nt 21 k T tT = T := by simp [sm_nt]
theorem sm_nd_21 {D : Int} : sm_nd 21 D = D := by simp [sm_nd]
theorem sm_nl_21 {k H L hL lL : Int} : sm_nl 21 k H L hL lL = L := by simp [sm_nl]
theorem sm_dl_22 {a : Int} : sm_dl 22 a = -1 := by simp [sm_dl]
theorem sm_nt_22 {k T tT : Int} : sm_nt 22 k T tT = T := by simp [sm_nt]
theorem sm_nd_22 {D : Int} : sm_nd 22 D = D := by simp [sm_nd]
theorem sm_nl_22 {k H L hL lL : Int} : sm_nl 22 k H L hL lL = L := by simp [sm_nl]
theorem sm_dl_23 {a : Int} : sm_dl 23 a = -1 := by simp [sm_dl]
theorem sm_nt_23 {k T tT : Int} : sm_nt 23 k T tT = T := by simp [sm_nt]
theorem sm_nd_23 {D : Int} : sm_nd 23 D = D := by simp [sm_nd]
theorem sm_nl_23 {k H L hL lL : Int} : sm_nl 23 k H L hL lL = L := by simp [sm_nl]
theorem sm_dl_24 {a : Int} : sm_dl 24 a = -1 := by simp [sm_dl]
theorem sm_nt_24 {k T tT : Int} : sm_nt 24 k T tT = T := by simp [sm_nt]
theorem sm_nd_24 {D : Int} : sm_nd 24 D = D := by simp [sm_nd]
theorem sm_nl_24 {k H L hL lL : Int} : sm_nl 24 k H L hL lL = L := by simp [sm_nl]
theorem sm_dl_25 {a : Int} : sm_dl 25 a = 0 := by simp [sm_dl]
theorem sm_nt_25 {k T tT : Int} : sm_nt 25 k T tT = T := by simp [sm_nt]
theorem sm_nd_25 {D : Int} : sm_nd 25 D = D := by simp [sm_nd]
theorem sm_nl_25 {k H L hL lL : Int} : sm_nl 25 k H L hL lL = L := by simp [sm_nl]
theorem sm_dl_26 {a : Int} : sm_dl 26 a = 0 := by simp [sm_dl]
theorem sm_nt_26 {k T tT : Int} : sm_nt 26 k T tT = T := by simp [sm_nt]
theorem sm_nd_26 {D : Int} : sm_nd 26 D = D := by simp [sm_nd]
theorem sm_nl_26 {k H L hL lL : Int} : sm_nl 26 k H L hL lL = L := by simp [sm_nl]
theorem sm_dl_27 {a : Int} : sm_dl 27 a = 0 := by simp [sm_dl]
theorem sm_nt_27 {k T tT : Int} : sm_nt 27 k T tT = k := by simp [sm_nt]
theorem sm_nd_27 {D : Int} : sm_nd 27 D = D + 1 := by simp [sm_nd]
theorem sm_nl_27 {k H L hL lL : Int} : sm_nl 27 k H L hL lL = L := by simp [sm_nl]
theorem sm_dl_28 {a : Int} : sm_dl 28 a = 0 := by simp [sm_dl]
theorem sm_nt_28 {k T tT : Int} : sm_nt 28 k T tT = tT := by simp [sm_nt]
theorem sm_nd_28 {D : Int} : sm_nd 28 D = D - 1 := by simp [sm_nd]
theorem sm_nl_28 {k H L hL lL : Int} : sm_nl 28 k H L hL lL = L := by simp [sm_nl]
theorem sm_dl_29 {a : Int} : sm_dl 29 a = 0 := by simp [sm_dl]
theorem sm_nt_29 {k T tT : Int} : sm_nt 29 k T tT = T := by simp [sm_nt]
theorem sm_nd_29 {D : Int} : sm_nd 29 D = D := by simp [sm_nd]
theorem sm_nl_29 {k H L hL lL : Int} : sm_nl 29 k H L hL lL = k := by simp [sm_nl]
theorem sm_dl_30 {a : Int} : sm_dl 30 a = 1 := by simp [sm_dl]
theorem sm_nt_30 {k T tT : Int} : sm_nt 30 k T tT = T := by simp [sm_nt]
theorem sm_nd_30 {D : Int} : sm_nd 30 D = D := by simp [sm_nd]
theorem sm_nl_30 {k H L hL lL : Int} : sm_nl 30 k H L hL lL = L := by simp [sm_nl]
theorem sm_nl_17a {k H L hL lL : Int} (h0 : 0 ≤ L) (h1 : hL = H) : sm_nl 17 k H L hL lL = lL := by unfold sm_nl; rw [if_neg (by decide), if_pos ⟨rfl, h0, h1⟩]
theorem sm_nl_17b {k H L hL lL : Int} (h : 0 ≤ L → hL < H) : sm_nl 17 k H L hL lL = L := by unfold sm_nl; rw [if_neg (by decide), if_neg (fun q => by have := h q.2.1; omega)]
theorem sm_ci_0 {a b H T D L hT hL tT lL k si nf ns aA f H1 T1 L1 jH jT jL : Int} (h : (0 ≤ a ∧ a ≤ 6 ∧ (a = 6 → 0 ≤ b ∧ b < ns)) ∧ (0 ≤ H ∧ (0 ≤ T → hT ≤ H) ∧ (0 ≤ L → hL ≤ H)) ∧ (H1 = H + 1 ∧ T1 = T ∧ L1 = L)) : sm_ci 0 a b H T D L hT hL tT lL k si nf ns aA f H1 T1 L1 jH jT jL := ⟨fun _ => h, fun q => absurd q (by decide), fun q => absurd q (by decide), fun q => absurd q (by decide), fun q => absurd q (by decide), fun q => absurd q (by decide), fun q => absurd q (by decide), fun q => absurd q (by decide), fun q => absurd q (by decide), fun q => absurd q (by decide), fun q => absurd q (by decide), fun q => absurd q (by decide), fun q => absurd q (by decide), fun q => absurd q (by decide), fun q => absurd q (by decide), fun q => absurd q (by decide), fun q => absurd q (by decide), fun q => absurd q (by decide), fun q => absurd q (by decide), fun q => absurd q (by decide), fun q => absurd q (by decide), fun q => absurd q (by decide), fun q => absurd q (by decide), fun q => absurd q (by decide)⟩
theorem sm_ci_1 {a b H T D L hT hL tT lL k si nf ns aA f H1 T1 L1 jH jT jL : Int} (h : (0 ≤ a ∧ 0 ≤ b ∧ b < ns) ∧ (0 ≤ H ∧ (0 ≤ T → hT ≤ H) ∧ (0 ≤ L → hL ≤ H)) ∧ (H1 = H + 1 ∧ T1 = T ∧ L1 = L)) : sm_ci 1 a b H T D L hT hL tT lL k si nf ns aA f H1 T1 L1 jH jT jL := ⟨fun q => absurd q (by decide), fun _ => h, fun q => absurd q (by decide), fun q => absurd q (by decide), fun q => absurd q (by decide), fun q => absurd q (by decide), fun q => absurd q (by decide), fun q => absurd q (by decide), fun q => absurd q (by decide), fun q => absurd q (by decide), fun q => absurd q (by decide), fun q => absurd q (by decide), fun q => absurd q (by decide), fun q => absurd q (by decide), fun q => absurd q (by decide), fun q => absurd q (by decide), fun q => absurd q (by decide), fun q => absurd q (by decide), fun q => absurd q (by decide), fun q => absurd q (by decide), fun q => absurd q (by decide), fun q => absurd q (by decide), fun q => absurd q (by decide), fun q => absurd q (by decide)⟩
theorem sm_ci_2 {a b H T D L hT hL tT lL k si nf ns aA f H1 T1 L1 jH jT jL : Int} (h : (0 ≤ a ∧ 0 ≤ b ∧ b < ns) ∧ (0 ≤ H - 1 ∧ (0 ≤ T → hT ≤ H - 1) ∧ (0 ≤ L → hL ≤ H - 1)) ∧ (H1 = H ∧ T1 = T ∧ L1 = L)) : sm_ci 2 a b H T D L hT hL tT lL k si nf ns aA f H1 T1 L1 jH jT jL := ⟨fun q => absurd q (by decide), fun q => absurd q (by decide), fun _ => h, fun q => absurd q (by decide), fun q => absurd q (by decide), fun q => absurd q (by decide), fun q => absurd q (by decide), fun q => absurd q (by decide), fun q => absurd q (by decide), fun q => absurd q (by decide), fun q => absurd q (by decide), fun q => absurd q (by decide), fun q => absurd q (by decide), fun q => absurd q (by decide), fun q => absurd q (by decide), fun q => absurd q (by decide), fun q => absurd q (by decide), fun q => absurd q (by decide), fun q => absurd q (by decide), fun q => absurd q (by decide), fun q => absurd q (by decide), fun q => absurd q (by decide), fun q => absurd q (by decide), fun q => absurd q (by decide)⟩
theorem sm_ci_3 {a b H T D L hT hL tT lL k si nf ns aA f H1 T1 L1 jH jT jL : Int} (h : (0 ≤ a ∧ 0 ≤ b ∧ b < ns) ∧ (0 ≤ H ∧ (0 ≤ T → hT ≤ H) ∧ (0 ≤ L → hL ≤ H)) ∧ (H1 = H + 1 ∧ T1 = T ∧ L1 = L)) : sm_ci 3 a b H T D L hT hL tT lL k si nf ns aA f H1 T1 L1 jH jT jL := ⟨fun q => absurd q (by decide), fun _ => h, fun q => absurd q (by decide), fun q => absurd q (by decide), fun q => absurd q (by decide), fun q => absurd q (by decide), fun q => absurd q (by decide), fun q => absurd q (by decide), fun q => absurd q (by decide), fun q => absurd q (by decide), fun q => absurd q (by decide), fun q => absurd q (by decide), fun q => absurd q (by decide), fun q => absurd q (by decide), fun q => absurd q (by decide), fun q => absurd q (by decide), fun q => absurd q (by decide), fun q => absurd q (by decide), fun q => absurd q (by decide), fun q => absurd q (by decide), fun q => absurd q (by decide), fun q => absurd q (by decide), fun q => absurd q (by decide), fun q => absurd q (by decide)⟩
theorem sm_ci_4 {a b H T D L hT hL tT lL k si nf ns aA f H1 T1 L1 jH jT jL : Int} (h : (0 ≤ a ∧ 0 ≤ b ∧ b < ns) ∧ (0 ≤ H - 1 ∧ (0 ≤ T → hT ≤ H - 1) ∧ (0 ≤ L → hL ≤ H - 1)) ∧ (H1 = H ∧ T1 = T ∧ L1 = L)) : sm_ci 4 a b H T D L hT hL tT lL k si nf ns aA f H1 T1 L1 jH jT jL := ⟨fun q => absurd q (by decide), fun q => absurd q (by decide), fun _ => h, fun q => absurd q (by decide), fun q => absurd q (by decide), fun q => absurd q (by decide), fun q => absurd q (by decide), fun q => absurd q (by decide), fun q => absurd q (by decide), fun q => absurd q (by decide), fun q => absurd q (by decide), fun q => absurd q (by decide), fun q => absurd q (by decide), fun q => absurd q (by decide), fun q => absurd q (by decide), fun q => absurd q (by decide), fun q => absurd q (by decide), fun q => absurd q (by decide), fun q => absurd q (by decide), fun q => absurd q (by decide), fun q => absurd q (by decide), fun q => absurd q (by decide), fun q => absurd q (by decide), fun q => absurd q (by decide)⟩
theorem sm_ci_5 {a b H T D L hT hL tT lL k si nf ns aA f H1 T1 L1 jH jT jL : Int} (h : (0 ≤ a ∧ 0 ≤ b ∧ b < ns) ∧ (0 ≤ H ∧ (0 ≤ T → hT ≤ H) ∧ (0 ≤ L → hL ≤ H)) ∧ (H1 = H + 1 ∧ T1 = T ∧ L1 = L)) : sm_ci 5 a b H T D L hT hL tT lL k si nf ns aA f H1 T1 L1 jH jT jL := ⟨fun q => absurd q (by decide), fun _ => h, fun q => absurd q (by decide), fun q => absurd q (by decide), fun q => absurd q (by decide), fun q => absurd q (by decide), fun q => absurd q (by decide), fun q => absurd q (by decide), fun q => absurd q (by decide), fun q => absurd q (by decide), fun q => absurd q (by decide), fun q => absurd q (by decide), fun q => absurd q (by decide), fun q => absurd q (by decide), fun q => absurd q (by decide), fun q => absurd q (by decide), fun q => absurd q (by decide), fun q => absurd q (by decide), fun q => absurd q (by decide), fun q => absurd q (by decide), fun q => absurd q (by decide), fun q => absurd q (by decide), fun q => absurd q (by decide), fun q => absurd q (by decide)⟩
theorem sm_ci_6 {a b H T D L hT hL tT lL k si nf ns aA f H1 T1 L1 jH jT jL : Int} (h : (0 ≤ H ∧ (0 ≤ T → hT ≤ H) ∧ (0 ≤ L → hL ≤ H)) ∧ (H1 = H + 1 ∧ T1 = T ∧ L1 = L)) : sm_ci 6 a b H T D L hT hL tT lL k si nf ns aA f H1 T1 L1 jH jT jL := ⟨fun q => absurd q (by decide), fun q => absurd q (by decide), fun q => absurd q (by decide), fun _ => h, fun q => absurd q (by decide), fun q => absurd q (by decide), fun q => absurd q (by decide), fun q => absurd q (by decide), fun q => absurd q (by decide), fun q => absurd q (by decide), fun q => absurd q (by decide), fun q => absurd q (by decide), fun q => absurd q (by decide), fun q => absurd q (by decide), fun q => absurd q (by decide), fun q => absurd q (by decide), fun q => absurd q (by decide), fun q => absurd q (by decide), fun q => absurd q (by decide), fun q => absurd q (by decide), fun q => absurd q (by decide), fun q => absurd q (by decide), fun q => absurd q (by decide), fun q => absurd q (by decide)⟩
theorem sm_ci_7 {a b H T D L hT hL tT lL k si nf ns aA f H1 T1 L1 jH jT jL : Int} (h : (0 ≤ a ∧ a < si) ∧ (0 ≤ H ∧ (0 ≤ T → hT ≤ H) ∧ (0 ≤ L → hL ≤ H)) ∧ (H1 = H + 1 ∧ T1 = T ∧ L1 = L)) : sm_ci 7 a b H T D L hT hL tT lL k si nf ns aA f H1 T1 L1 jH jT jL := ⟨fun q => absurd q (by decide), fun q => absurd q (by decide), fun q => absurd q (by decide), fun q => absurd q (by decide), fun _ => h, fun q => absurd q (by decide), fun q => absurd q (by decide), fun q => absurd q (by decide), fun q => absurd q (by decide), fun q => absurd q (by decide), fun q => absurd q (by decide), fun q => absurd q (by decide), fun q => absurd q (by decide), fun q => absurd q (by decide), fun q => absurd q (by decide), fun q => absurd q (by decide), fun q => absurd q (by decide), fun q => absurd q (by decide), fun q => absurd q (by decide), fun q => absurd q (by decide), fun q => absurd q (by decide), fun q => absurd q (by decide), fun q => absurd q (by decide), fun q => absurd q (by decide)⟩
theorem sm_ci_8 {a b H T D L hT hL tT lL k si nf ns aA f H1 T1 L1 jH jT jL : Int} (h : (0 ≤ a ∧ a < si) ∧ (0 ≤ H ∧ (0 ≤ T → hT ≤ H) ∧ (0 ≤ L → hL ≤ H)) ∧ (H1 = H + 1 ∧ T1 = T ∧ L1 = L)) : sm_ci 8 a b H T D L hT hL tT lL k si nf ns aA f H1 T1 L1 jH jT jL := ⟨fun q => absurd q (by decide), fun q => absurd q (by decide), fun q => absurd q (by decide), fun q => absurd q (by decide), fun _ => h, fun q => absurd q (by decide), fun q => absurd q (by decide), fun q => absurd q (by decide), fun q => absurd q (by decide), fun q => absurd q (by decide), fun q => absurd q (by decide), fun q => absurd q (by decide), fun q => absurd q (by decide), fun q => absurd q (by decide), fun q => absurd q (by decide), fun q => absurd q (by decide), fun q => absurd q (by decide), fun q => absurd q (by decide), fun q => absurd q (by decide), fun q => absurd q (by decide), fun q => absurd q (by decide), fun q => absurd q (by decide), fun q => absurd q (by decide), fun q => absurd q (by decide)⟩
theorem sm_ci_9 {a b H T D L hT hL tT lL k si nf ns aA f H1 T1 L1 jH jT jL : Int} (h : (1 ≤ a ∧ a < nf ∧ aA = f) ∧ (0 ≤ H ∧ (0 ≤ T → hT ≤ H) ∧ (0 ≤ L → hL ≤ H)) ∧ (H1 = H + 1 ∧ T1 = T ∧ L1 = L)) : sm_ci 9 a b H T D L hT hL tT lL k si nf ns aA f H1 T1 L1 jH jT jL := ⟨fun q => absurd q (by decide), fun q => absurd q (by decide), fun q => absurd q (by decide), fun q => absurd q (by decide), fun q => absurd q (by decide), fun _ => h, fun q => absurd q (by decide), fun q => absurd q (by decide), fun q => absurd q (by decide), fun q => absurd q (by decide), fun q => absurd q (by decide), fun q => absurd q (by decide), fun q => absurd q (by decide), fun q => absurd q (by decide), fun q => absurd q (by decide), fun q => absurd q (by decide), fun q => absurd q (by decide), fun q => absurd q (by decide), fun q => absurd q (by decide), fun q => absurd q (by decide), fun q => absurd q (by decide), fun q => absurd q (by decide), fun q => absurd q (by decide), fun q => absurd q (by decide)⟩
theorem sm_ci_10 {a b H T D L hT hL tT lL k si nf ns aA f H1 T1 L1 jH jT jL : Int} (h : (0 ≤ H - 2 ∧ (0 ≤ T → hT ≤ H - 2) ∧ (0 ≤ L → hL ≤ H - 2)) ∧ (H1 = H - 1 ∧ T1 = T ∧ L1 = L)) : sm_ci 10 a b H T D L hT hL tT lL k si nf ns aA f H1 T1 L1 jH jT jL := ⟨fun q => absurd q (by decide), fun q => absurd q (by decide), fun q => absurd q (by decide), fun q => absurd q (by decide), fun q => absurd q (by decide), fun q => absurd q (by decide), fun _ => h, fun q => absurd q (by decide), fun q => absurd q (by decide), fun q => absurd q (by decide), fun q => absurd q (by decide), fun q => absurd q (by decide), fun q => absurd q (by decide), fun q => absurd q (by decide), fun q => absurd q (by decide), fun q => absurd q (by decide), fun q => absurd q (by decide), fun q => absurd q (by decide), fun q => absurd q (by decide), fun q => absurd q (by decide), fun q => absurd q (by decide), fun q => absurd q (by decide), fun q => absurd q (by decide), fun q => absurd q (by decide)⟩
theorem sm_ci_11 {a b H T D L hT hL tT lL k si nf ns aA f H1 T1 L1 jH jT jL : Int} (h : (0 ≤ H - 3 ∧ (0 ≤ T → hT ≤ H - 3) ∧ (0 ≤ L → hL ≤ H - 3)) ∧ (H1 = H - 2 ∧ T1 = T ∧ L1 = L)) : sm_ci 11 a b H T D L hT hL tT lL k si nf ns aA f H1 T1 L1 jH jT jL := ⟨fun q => absurd q (by decide), fun q => absurd q (by decide), fun q => absurd q (by decide), fun q => absurd q (by decide), fun q => absurd q (by decide), fun q => absurd q (by decide), fun q => absurd q (by decide), fun _ => h, fun q => absurd q (by decide), fun q => absurd q (by decide), fun q => absurd q (by decide), fun q => absurd q (by decide), fun q => absurd q (by decide), fun q => absurd q (by decide), fun q => absurd q (by decide), fun q => absurd q (by decide), fun q => absurd q (by decide), fun q => absurd q (by decide), fun q => absurd q (by decide), fun q => absurd q (by decide), fun q => absurd q (by decide), fun q => absurd q (by decide), fun q => absurd q (by decide), fun q => absurd q (by decide)⟩
theorem sm_ci_12 {a b H T D L hT hL tT lL k si nf ns aA f H1 T1 L1 jH jT jL : Int} (h : (0 ≤ H - 2 ∧ (0 ≤ T → hT ≤ H - 2) ∧ (0 ≤ L → hL ≤ H - 2)) ∧ (H1 = H - 1 ∧ T1 = T ∧ L1 = L)) : sm_ci 12 a b H T D L hT hL tT lL k si nf ns aA f H1 T1 L1 jH jT jL := ⟨fun q => absurd q (by decide), fun q => absurd q (by decide), fun q => absurd q (by decide), fun q => absurd q (by decide), fun q => absurd q (by decide), fun q => absurd q (by decide), fun _ => h, fun q => absurd q (by decide), fun q => absurd q (by decide), fun q => absurd q (by decide), fun q => absurd q (by decide), fun q => absurd q (by decide), fun q => absurd q (by decide), fun q => absurd q (by decide), fun q => absurd q (by decide), fun q => absurd q (by decide), fun q => absurd q (by decide), fun q => absurd q (by decide), fun q => absurd q (by decide), fun q => absurd q (by decide), fun q => absurd q (by decide), fun q => absurd q (by decide), fun q => absurd q (by decide), fun q => absurd q (by decide)⟩
theorem sm_ci_13 {a b H T D L hT hL tT lL k si nf ns aA f H1 T1 L1 jH jT jL : Int} (h : (0 ≤ a ∧ a ≤ 4) ∧ (0 ≤ H - 1 ∧ (0 ≤ T → hT ≤ H - 1) ∧ (0 ≤ L → hL ≤ H - 1)) ∧ (H1 = H ∧ T1 = T ∧ L1 = L)) : sm_ci 13 a b H T D L hT hL tT lL k si nf ns aA f H1 T1 L1 jH jT jL := ⟨fun q => absurd q (by decide), fun q => absurd q (by decide), fun q => absurd q (by decide), fun q => absurd q (by decide), fun q => absurd q (by decide), fun q => absurd q (by decide), fun q => absurd q (by decide), fun q => absurd q (by decide), fun _ => h, fun q => absurd q (by decide), fun q => absurd q (by decide), fun q => absurd q (by decide), fun q => absurd q (by decide), fun q => absurd q (by decide), fun q => absurd q (by decide), fun q => absurd q (by decide), fun q => absurd q (by decide), fun q => absurd q (by decide), fun q => absurd q (by decide), fun q => absurd q (by decide), fun q => absurd q (by decide), fun q => absurd q (by decide), fun q => absurd q (by decide), fun q => absurd q (by decide)⟩
theorem sm_ci_14 {a b H T D L hT hL tT lL k si nf ns aA f H1 T1 L1 jH jT jL : Int} (h : (0 ≤ a ∧ a ≤ 20) ∧ (0 ≤ H - 2 ∧ (0 ≤ T → hT ≤ H - 2) ∧ (0 ≤ L → hL ≤ H - 2)) ∧ (H1 = H - 1 ∧ T1 = T ∧ L1 = L)) : sm_ci 14 a b H T D L hT hL tT lL k si nf ns aA f H1 T1 L1 jH jT jL := ⟨fun q => absurd q (by decide), fun q => absurd q (by decide), fun q => absurd q (by decide), fun q => absurd q (by decide), fun q => absurd q (by decide), fun q => absurd q (by decide), fun q => absurd q (by decide), fun q => absurd q (by decide), fun q => absurd q (by decide), fun _ => h, fun q => absurd q (by decide), fun q => absurd q (by decide), fun q => absurd q (by decide), fun q => absurd q (by decide), fun q => absurd q (by decide), fun q => absurd q (by decide), fun q => absurd q (by decide), fun q => absurd q (by decide), fun q => absurd q (by decide), fun q => absurd q (by decide), fun q => absurd q (by decide), fun q => absurd q (by decide), fun q => absurd q (by decide), fun q => absurd q (by decide)⟩
theorem sm_ci_15 {a b H T D L hT hL tT lL k si nf ns aA f H1 T1 L1 jH jT jL : Int} (h : (0 ≤ a ∧ a ≤ 8) ∧ (0 ≤ H - a - 2 ∧ (0 ≤ T → hT ≤ H - a - 2) ∧ (0 ≤ L → hL ≤ H - a - 2)) ∧ (H1 = H - a - 1 ∧ T1 = T ∧ L1 = L)) : sm_ci 15 a b H T D L hT hL tT lL k si nf ns aA f H1 T1 L1 jH jT jL := ⟨fun q => absurd q (by decide), fun q => absurd q (by decide), fun q => absurd q (by decide), fun q => absurd q (by decide), fun q => absurd q (by decide), fun q => absurd q (by decide), fun q => absurd q (by decide), fun q => absurd q (by decide), fun q => absurd q (by decide), fun q => absurd q (by decide), fun _ => h, fun q => absurd q (by decide), fun q => absurd q (by decide), fun q => absurd q (by decide), fun q => absurd q (by decide), fun q => absurd q (by decide), fun q => absurd q (by decide), fun q => absurd q (by decide), fun q => absurd q (by decide), fun q => absurd q (by decide), fun q => absurd q (by decide), fun q => absurd q (by decide), fun q => absurd q (by decide), fun q => absurd q (by decide)⟩
theorem sm_ci_16 {a b H T D L hT hL tT lL k si nf ns aA f H1 T1 L1 jH jT jL : Int} (h : (0 ≤ a ∧ a ≤ 8 ∧ 0 ≤ b ∧ b < si) ∧ (0 ≤ H - a - 1 ∧ (0 ≤ T → hT ≤ H - a - 1) ∧ (0 ≤ L → hL ≤ H - a - 1)) ∧ (H1 = H - a ∧ T1 = T ∧ L1 = L)) : sm_ci 16 a b H T D L hT hL tT lL k si nf ns aA f H1 T1 L1 jH jT jL := ⟨fun q => absurd q (by decide), fun q => absurd q (by decide), fun q => absurd q (by decide), fun q => absurd q (by decide), fun q => absurd q (by decide), fun q => absurd q (by decide), fun q => absurd q (by decide), fun q => absurd q (by decide), fun q => absurd q (by decide), fun q => absurd q (by decide), fun q => absurd q (by decide), fun _ => h, fun q => absurd q (by decide), fun q => absurd q (by decide), fun q => absurd q (by decide), fun q => absurd q (by decide), fun q => absurd q (by decide), fun q => absurd q (by decide), fun q => absurd q (by decide), fun q => absurd q (by decide), fun q => absurd q (by decide), fun q => absurd q (by decide), fun q => absurd q (by decide), fun q => absurd q (by decide)⟩
theorem sm_ci_17 {a b H T D L hT hL tT lL k si nf ns aA f H1 T1 L1 jH jT jL : Int} (h : 1 ≤ H ∧ (0 ≤ T → hT ≤ H - 1) ∧ ((0 ≤ L ∧ hL = H ∧ H1 = H - 1 ∧ T1 = T ∧ L1 = lL) ∨ ((0 ≤ L → hL ≤ H - 1) ∧ H1 = H - 1 ∧ T1 = T ∧ L1 = L))) : sm_ci 17 a b H T D L hT hL tT lL k si nf ns aA f H1 T1 L1 jH jT jL := ⟨fun q => absurd q (by decide), fun q => absurd q (by decide), fun q => absurd q (by decide), fun q => absurd q (by decide), fun q => absurd q (by decide), fun q => absurd q (by decide), fun q => absurd q (by decide), fun q => absurd q (by decide), fun q => absurd q (by decide), fun q => absurd q (by decide), fun q => absurd q (by decide), fun q => absurd q (by decide), fun _ => h, fun q => absurd q (by decide), fun q => absurd q (by decide), fun q => absurd q (by decide), fun q => absurd q (by decide), fun q => absurd q (by decide), fun q => absurd q (by decide), fun q => absurd q (by decide), fun q => absurd q (by decide), fun q => absurd q (by decide), fun q => absurd q (by decide), fun q => absurd q (by decide)⟩
theorem sm_ci_18 {a b H T D L hT hL tT lL k si nf ns aA f H1 T1 L1 jH jT jL : Int} (h : (0 ≤ H - 1 ∧ (0 ≤ T → hT ≤ H - 1) ∧ (0 ≤ L → hL ≤ H - 1)) ∧ (H1 = H + 1 ∧ T1 = T ∧ L1 = L)) : sm_ci 18 a b H T D L hT hL tT lL k si nf ns aA f H1 T1 L1 jH jT jL := ⟨fun q => absurd q (by decide), fun q => absurd q (by decide), fun q => absurd q (by decide), fun q => absurd q (by decide), fun q => absurd q (by decide), fun q => absurd q (by decide), fun q => absurd q (by decide), fun q => absurd q (by decide), fun q => absurd q (by decide), fun q => absurd q (by decide), fun q => absurd q (by decide), fun q => absurd q (by decide), fun q => absurd q (by decide), fun _ => h, fun q => absurd q (by decide), fun q => absurd q (by decide), fun q => absurd q (by decide), fun q => absurd q (by decide), fun q => absurd q (by decide), fun q => absurd q (by decide), fun q => absurd q (by decide), fun q => absurd q (by decide), fun q => absurd q (by decide), fun q => absurd q (by decide)⟩
theorem sm_ci_19 {a b H T D L hT hL tT lL k si nf ns aA f H1 T1 L1 jH jT jL : Int} (h : (H ≤ k) ∧ (0 ≤ H - 2 ∧ (0 ≤ T → hT ≤ H - 2) ∧ (0 ≤ L → hL ≤ H - 2)) ∧ (H1 = H + 2 ∧ T1 = T ∧ L1 = L)) : sm_ci 19 a b H T D L hT hL tT lL k si nf ns aA f H1 T1 L1 jH jT jL := ⟨fun q => absurd q (by decide), fun q => absurd q (by decide), fun q => absurd q (by decide), fun q => absurd q (by decide), fun q => absurd q (by decide), fun q => absurd q (by decide), fun q => absurd q (by decide), fun q => absurd q (by decide), fun q => absurd q (by decide), fun q => absurd q (by decide), fun q => absurd q (by decide), fun q => absurd q (by decide), fun q => absurd q (by decide), fun q => absurd q (by decide), fun _ => h, fun q => absurd q (by decide), fun q => absurd q (by decide), fun q => absurd q (by decide), fun q => absurd q (by decide), fun q => absurd q (by decide), fun q => absurd q (by decide), fun q => absurd q (by decide), fun q => absurd q (by decide), fun q => absurd q (by decide)⟩
theorem sm_ci_20 {a b H T D L hT hL tT lL k si nf ns aA f H1 T1 L1 jH jT jL : Int} (h : (0 ≤ H - 3 ∧ (0 ≤ T → hT ≤ H - 3) ∧ (0 ≤ L → hL ≤ H - 3)) ∧ (H1 = H + 1 ∧ T1 = T ∧ L1 = L)) : sm_ci 20 a b H T D L hT hL tT lL k si nf ns aA f H1 T1 L1 jH jT jL := ⟨fun q => absurd q (by decide), fun q => absurd q (by decide), fun q => absurd q (by decide), fun q => absurd q (by decide), fun q => absurd q (by decide), fun q => absurd q (by decide), fun q => absurd q (by decide), fun q => absurd q (by decide), fun q => absurd q (by decide), fun q => absurd q (by decide), fun q => absurd q (by decide), fun q => absurd q (by decide), fun q => absurd q (by decide), fun q => absurd q (by decide), fun q => absurd q (by decide), fun _ => h, fun q => absurd q (by decide), fun q => absurd q (by decide), fun q => absurd q (by decide), fun q => absurd q (by decide), fun q => absurd q (by decide), fun q => absurd q (by decide), fun q => absurd q (by decide), fun q => absurd q (by decide)⟩
theorem sm_ci_21 {a b H T D L hT hL tT lL k si nf ns aA f H1 T1 L1 jH jT jL : Int} (h : (0 ≤ H ∧ (0 ≤ T → hT ≤ H) ∧ (0 ≤ L → hL ≤ H)) ∧ (jH = H ∧ jT = T ∧ jL = L)) : sm_ci 21 a b H T D L hT hL tT lL k si nf ns aA f H1 T1 L1 jH jT jL := ⟨fun q => absurd q (by decide), fun q => absurd q (by decide), fun q => absurd q (by decide), fun q => absurd q (by decide), fun q => absurd q (by decide), fun q => absurd q (by decide), fun q => absurd q (by decide), fun q => absurd q (by decide), fun q => absurd q (by decide), fun q => absurd q (by decide), fun q => absurd q (by decide), fun q => absurd q (by decide), fun q => absurd q (by decide), fun q => absurd q (by decide), fun q => absurd q (by decide), fun q => absurd q (by decide), fun _ => h, fun q => absurd q (by decide), fun q => absurd q (by decide), fun q => absurd q (by decide), fun q => absurd q (by decide), fun q => absurd q (by decide), fun q => absurd q (by decide), fun q => absurd q (by decide)⟩
theorem sm_ci_22 {a b H T D L hT hL tT lL k si nf ns aA f H1 T1 L1 jH jT jL : Int} (h : (0 ≤ H - 1 ∧ (0 ≤ T → hT ≤ H - 1) ∧ (0 ≤ L → hL ≤ H - 1)) ∧ (H1 = H - 1 ∧ T1 = T ∧ L1 = L) ∧ (jH = H - 1 ∧ jT = T ∧ jL = L)) : sm_ci 22 a b H T D L hT hL tT lL k si nf ns aA f H1 T1 L1 jH jT jL := ⟨fun q => absurd q (by decide), fun q => absurd q (by decide), fun q => absurd q (by decide), fun q => absurd q (by decide), fun q => absurd q (by decide), fun q => absurd q (by decide), fun q => absurd q (by decide), fun q => absurd q (by decide), fun q => absurd q (by decide), fun q => absurd q (by decide), fun q => absurd q (by decide), fun q => absurd q (by decide), fun q => absurd q (by decide), fun q => absurd q (by decide), fun q => absurd q (by decide), fun q => absurd q (by decide), fun q => absurd q (by decide), fun _ => h, fun q => absurd q (by decide), fun q => absurd q (by decide), fun q => absurd q (by decide), fun q => absurd q (by decide), fun q => absurd q (by decide), fun q => absurd q (by decide)⟩
theorem sm_ci_23 {a b H T D L hT hL tT lL k si nf ns aA f H1 T1 L1 jH jT jL : Int} (h : (0 ≤ H - 1 ∧ (0 ≤ T → hT ≤ H - 1) ∧ (0 ≤ L → hL ≤ H - 1)) ∧ (H1 = H - 1 ∧ T1 = T ∧ L1 = L) ∧ (jH = H ∧ jT = T ∧ jL = L)) : sm_ci 23 a b H T D L hT hL tT lL k si nf ns aA f H1 T1 L1 jH jT jL := ⟨fun q => absurd q (by decide), fun q => absurd q (by decide), fun q => absurd q (by decide), fun q => absurd q (by decide), fun q => absurd q (by decide), fun q => absurd q (by decide), fun q => absurd q (by decide), fun q => absurd q (by decide), fun q => absurd q (by decide), fun q => absurd q (by decide), fun q => absurd q (by decide), fun q => absurd q (by decide), fun q => absurd q (by decide), fun q => absurd q (by decide), fun q => absurd q (by decide), fun q => absurd q (by decide), fun q => absurd q (by decide), fun q => absurd q (by decide), fun _ => h, fun q => absurd q (by decide), fun q => absurd q (by decide), fun q => absurd q (by decide), fun q => absurd q (by decide), fun q => absurd q (by decide)⟩
theorem sm_ci_24 {a b H T D L hT hL tT lL k si nf ns aA f H1 T1 L1 jH jT jL : Int} (h : (0 ≤ H - 1 ∧ (0 ≤ T → hT ≤ H - 1) ∧ (0 ≤ L → hL ≤ H - 1)) ∧ (H1 = H - 1 ∧ T1 = T ∧ L1 = L) ∧ (jH = H ∧ jT = T ∧ jL = L)) : sm_ci 24 a b H T D L hT hL tT lL k si nf ns aA f H1 T1 L1 jH jT jL := ⟨fun q => absurd q (by decide), fun q => absurd q (by decide), fun q => absurd q (by decide), fun q => absurd q (by decide), fun q => absurd q (by decide), fun q => absurd q (by decide), fun q => absurd q (by decide), fun q => absurd q (by decide), fun q => absurd q (by decide), fun q => absurd q (by decide), fun q => absurd q (by decide), fun q => absurd q (by decide), fun q => absurd q (by decide), fun q => absurd q (by decide), fun q => absurd q (by decide), fun q => absurd q (by decide), fun q => absurd q (by decide), fun q => absurd q (by decide), fun _ => h, fun q => absurd q (by decide), fun q => absurd q (by decide), fun q => absurd q (by decide), fun q => absurd q (by decide), fun q => absurd q (by decide)⟩
theorem sm_ci_25 {a b H T D L hT hL tT lL k si nf ns aA f H1 T1 L1 jH jT jL : Int} (h : (0 ≤ H - 1 ∧ (0 ≤ T → hT ≤ H - 1) ∧ (0 ≤ L → hL ≤ H - 1))) : sm_ci 25 a b H T D L hT hL tT lL k si nf ns aA f H1 T1 L1 jH jT jL := ⟨fun q => absurd q (by decide), fun q => absurd q (by decide), fun q => absurd q (by decide), fun q => absurd q (by decide), fun q => absurd q (by decide), fun q => absurd q (by decide), fun q => absurd q (by decide), fun q => absurd q (by decide), fun q => absurd q (by decide), fun q => absurd q (by decide), fun q => absurd q (by decide), fun q => absurd q (by decide), fun q => absurd q (by decide), fun q => absurd q (by decide), fun q => absurd q (by decide), fun q => absurd q (by decide), fun q => absurd q (by decide), fun q => absurd q (by decide), fun q => absurd q (by decide), fun _ => h, fun q => absurd q (by decide), fun q => absurd q (by decide), fun q => absurd q (by decide), fun q => absurd q (by decide)⟩
theorem sm_ci_26 {a b H T D L hT hL tT lL k si nf ns aA f H1 T1 L1 jH jT jL : Int} (h : (0 ≤ H - 1 ∧ (0 ≤ T → hT ≤ H - 1) ∧ (0 ≤ L → hL ≤ H - 1))) : sm_ci 26 a b H T D L hT hL tT lL k si nf ns aA f H1 T1 L1 jH jT jL := ⟨fun q => absurd q (by decide), fun q => absurd q (by decide), fun q => absurd q (by decide), fun q => absurd q (by decide), fun q => absurd q (by decide), fun q => absurd q (by decide), fun q => absurd q (by decide), fun q => absurd q (by decide), fun q => absurd q (by decide), fun q => absurd q (by decide), fun q => absurd q (by decide), fun q => absurd q (by decide), fun q => absurd q (by decide), fun q => absurd q (by decide), fun q => absurd q (by decide), fun q => absurd q (by decide), fun q => absurd q (by decide), fun q => absurd q (by decide), fun q => absurd q (by decide), fun _ => h, fun q => absurd q (by decide), fun q => absurd q (by decide), fun q => absurd q (by decide), fun q => absurd q (by decide)⟩
theorem sm_ci_27 {a b H T D L hT hL tT lL k si nf ns aA f H1 T1 L1 jH jT jL : Int} (h : (D < 40) ∧ (0 ≤ H ∧ (0 ≤ T → hT ≤ H) ∧ (0 ≤ L → hL ≤ H)) ∧ (H1 = H ∧ T1 = k ∧ L1 = L) ∧ (jH = H + 1 ∧ jT = T ∧ jL = L)) : sm_ci 27 a b H T D L hT hL tT lL k si nf ns aA f H1 T1 L1 jH jT jL := ⟨fun q => absurd q (by decide), fun q => absurd q (by decide), fun q => absurd q (by decide), fun q => absurd q (by decide), fun q => absurd q (by decide), fun q => absurd q (by decide), fun q => absurd q (by decide), fun q => absurd q (by decide), fun q => absurd q (by decide), fun q => absurd q (by decide), fun q => absurd q (by decide), fun q => absurd q (by decide), fun q => absurd q (by decide), fun q => absurd q (by decide), fun q => absurd q (by decide), fun q => absurd q (by decide), fun q => absurd q (by decide), fun q => absurd q (by decide), fun q => absurd q (by decide), fun q => absurd q (by decide), fun _ => h, fun q => absurd q (by decide), fun q => absurd q (by decide), fun q => absurd q (by decide)⟩
theorem sm_ci_28 {a b H T D L hT hL tT lL k si nf ns aA f H1 T1 L1 jH jT jL : Int} (h : (0 ≤ T) ∧ (0 ≤ H ∧ (0 ≤ T → hT ≤ H) ∧ (0 ≤ L → hL ≤ H)) ∧ (H1 = H ∧ T1 = tT ∧ L1 = L)) : sm_ci 28 a b H T D L hT hL tT lL k si nf ns aA f H1 T1 L1 jH jT jL := ⟨fun q => absurd q (by decide), fun q => absurd q (by decide), fun q => absurd q (by decide), fun q => absurd q (by decide), fun q => absurd q (by decide), fun q => absurd q (by decide), fun q => absurd q (by decide), fun q => absurd q (by decide), fun q => absurd q (by decide), fun q => absurd q (by decide), fun q => absurd q (by decide), fun q => absurd q (by decide), fun q => absurd q (by decide), fun q => absurd q (by decide), fun q => absurd q (by decide), fun q => absurd q (by decide), fun q => absurd q (by decide), fun q => absurd q (by decide), fun q => absurd q (by decide), fun q => absurd q (by decide), fun q => absurd q (by decide), fun _ => h, fun q => absurd q (by decide), fun q => absurd q (by decide)⟩
theorem sm_ci_29 {a b H T D L hT hL tT lL k si nf ns aA f H1 T1 L1 jH jT jL : Int} (h : (0 ≤ H - 1 ∧ (0 ≤ T → hT ≤ H - 1) ∧ (0 ≤ L → hL ≤ H - 1)) ∧ (H1 = H ∧ T1 = T ∧ L1 = k)) : sm_ci 29 a b H T D L hT hL tT lL k si nf ns aA f H1 T1 L1 jH jT jL := ⟨fun q => absurd q (by decide), fun q => absurd q (by decide), fun q => absurd q (by decide), fun q => absurd q (by decide), fun q => absurd q (by decide), fun q => absurd q (by decide), fun q => absurd q (by decide), fun q => absurd q (by decide), fun q => absurd q (by decide), fun q => absurd q (by decide), fun q => absurd q (by decide), fun q => absurd q (by decide), fun q => absurd q (by decide), fun q => absurd q (by decide), fun q => absurd q (by decide), fun q => absurd q (by decide), fun q => absurd q (by decide), fun q => absurd q (by decide), fun q => absurd q (by decide), fun q => absurd q (by decide), fun q => absurd q (by decide), fun q => absurd q (by decide), fun _ => h, fun q => absurd q (by decide)⟩
theorem sm_ci_30 {a b H T D L hT hL tT lL k si nf ns aA f H1 T1 L1 jH jT jL : Int} (h : 0 ≤ L ∧ hL = H ∧ 1 ≤ H ∧ (0 ≤ T → hT ≤ H - 1) ∧ (H1 = H + 1 ∧ T1 = T ∧ L1 = L) ∧ (jH = H - 1 ∧ jT = T ∧ jL = lL)) : sm_ci 30 a b H T D L hT hL tT lL k si nf ns aA f H1 T1 L1 jH jT jL := ⟨fun q => absurd q (by decide), fun q => absurd q (by decide), fun q => absurd q (by decide), fun q => absurd q (by decide), fun q => absurd q (by decide), fun q => absurd q (by decide), fun q => absurd q (by decide), fun q => absurd q (by decide), fun q => absurd q (by decide), fun q => absurd q (by decide), fun q => absurd q (by decide), fun q => absurd q (by decide), fun q => absurd q (by decide), fun q => absurd q (by decide), fun q => absurd q (by decide), fun q => absurd q (by decide), fun q => absurd q (by decide), fun q => absurd q (by decide), fun q => absurd q (by decide), fun q => absurd q (by decide), fun q => absurd q (by decide), fun q => absurd q (by decide), fun q => absurd q (by decide), fun _ => h⟩
theorem sm_ci_g1 {op a b H T D L hT hL tT lL k si nf ns aA f H1 T1 L1 jH jT jL : Int} (ho : op = 1 ∨ op = 3 ∨ op = 5) (h : (0 ≤ a ∧ 0 ≤ b ∧ b < ns) ∧ (0 ≤ H ∧ (0 ≤ T → hT ≤ H) ∧ (0 ≤ L → hL ≤ H)) ∧ (H1 = H + 1 ∧ T1 = T ∧ L1 = L)) : sm_ci op a b H T D L hT hL tT lL k si nf ns aA f H1 T1 L1 jH jT jL := ⟨fun q => absurd q (by omega), fun _ => h, fun q => absurd q (by omega), fun q => absurd q (by omega), fun q => absurd q (by omega), fun q => absurd q (by omega), fun q => absurd q (by omega), fun q => absurd q (by omega), fun q => absurd q (by omega), fun q => absurd q (by omega), fun q => absurd q (by omega), fun q => absurd q (by omega), fun q => absurd q (by omega), fun q => absurd q (by omega), fun q => absurd q (by omega), fun q => absurd q (by omega), fun q => absurd q (by omega), fun q => absurd q (by omega), fun q => absurd q (by omega), fun q => absurd q (by omega), fun q => absurd q (by omega), fun q => absurd q (by omega), fun q => absurd q (by omega), fun q => absurd q (by omega)⟩
theorem sm_ci_g2 {op a b H T D L hT hL tT lL k si nf ns aA f H1 T1 L1 jH jT jL : Int} (ho : op = 2 ∨ op = 4) (h : (0 ≤ a ∧ 0 ≤ b ∧ b < ns) ∧ (0 ≤ H - 1 ∧ (0 ≤ T → hT ≤ H - 1) ∧ (0 ≤ L → hL ≤ H - 1)) ∧ (H1 = H ∧ T1 = T ∧ L1 = L)) : sm_ci op a b H T D L hT hL tT lL k si nf ns aA f H1 T1 L1 jH jT jL := ⟨fun q => absurd q (by omega), fun q => absurd q (by omega), fun _ => h, fun q => absurd q (by omega), fun q => absurd q (by omega), fun q => absurd q (by omega), fun q => absurd q (by omega), fun q => absurd q (by omega), fun q => absurd q (by omega), fun q => absurd q (by omega), fun q => absurd q (by omega), fun q => absurd q (by omega), fun q => absurd q (by omega), fun q => absurd q (by omega), fun q => absurd q (by omega), fun q => absurd q (by omega), fun q => absurd q (by omega), fun q => absurd q (by omega), fun q => absurd q (by omega), fun q => absurd q (by omega), fun q => absurd q (by omega), fun q => absurd q (by omega), fun q => absurd q (by omega), fun q => absurd q (by omega)⟩
theorem sm_ci_g7 {op a b H T D L hT hL tT lL k si nf ns aA f H1 T1 L1 jH jT jL : Int} (ho : op = 7 ∨ op = 8) (h : (0 ≤ a ∧ a < si) ∧ (0 ≤ H ∧ (0 ≤ T → hT ≤ H) ∧ (0 ≤ L → hL ≤ H)) ∧ (H1 = H + 1 ∧ T1 = T ∧ L1 = L)) : sm_ci op a b H T D L hT hL tT lL k si nf ns aA f H1 T1 L1 jH jT jL := ⟨fun q => absurd q (by omega), fun q => absurd q (by omega), fun q => absurd q (by omega), fun q => absurd q (by omega), fun _ => h, fun q => absurd q (by omega), fun q => absurd q (by omega), fun q => absurd q (by omega), fun q => absurd q (by omega), fun q => absurd q (by omega), fun q => absurd q (by omega), fun q => absurd q (by omega), fun q => absurd q (by omega), fun q => absurd q (by omega), fun q => absurd q (by omega), fun q => absurd q (by omega), fun q => absurd q (by omega), fun q => absurd q (by omega), fun q => absurd q (by omega), fun q => absurd q (by omega), fun q => absurd q (by omega), fun q => absurd q (by omega), fun q => absurd q (by omega), fun q => absurd q (by omega)⟩
theorem sm_ci_g10 {op a b H T D L hT hL tT lL k si nf ns aA f H1 T1 L1 jH jT jL : Int} (ho : op = 10 ∨ op = 12) (h : (0 ≤ H - 2 ∧ (0 ≤ T → hT ≤ H - 2) ∧ (0 ≤ L → hL ≤ H - 2)) ∧ (H1 = H - 1 ∧ T1 = T ∧ L1 = L)) : sm_ci op a b H T D L hT hL tT lL k si nf ns aA f H1 T1 L1 jH jT jL := ⟨fun q => absurd q (by omega), fun q => absurd q (by omega), fun q => absurd q (by omega), fun q => absurd q (by omega), fun q => absurd q (by omega), fun q => absurd q (by omega), fun _ => h, fun q => absurd q (by omega), fun q => absurd q (by omega), fun q => absurd q (by omega), fun q => absurd q (by omega), fun q => absurd q (by omega), fun q => absurd q (by omega), fun q => absurd q (by omega), fun q => absurd q (by omega), fun q => absurd q (by omega), fun q => absurd q (by omega), fun q => absurd q (by omega), fun q => absurd q (by omega), fun q => absurd q (by omega), fun q => absurd q (by omega), fun q => absurd q (by omega), fun q => absurd q (by omega), fun q => absurd q (by omega)⟩
theorem sm_ci_g23 {op a b H T D L hT hL tT lL k si nf ns aA f H1 T1 L1 jH jT jL : Int} (ho : op = 23 ∨ op = 24) (h : (0 ≤ H - 1 ∧ (0 ≤ T → hT ≤ H - 1) ∧ (0 ≤ L → hL ≤ H - 1)) ∧ (H1 = H - 1 ∧ T1 = T ∧ L1 = L) ∧ (jH = H ∧ jT = T ∧ jL = L)) : sm_ci op a b H T D L hT hL tT lL k si nf ns aA f H1 T1 L1 jH jT jL := ⟨fun q => absurd q (by omega), fun q => absurd q (by omega), fun q => absurd q (by omega), fun q => absurd q (by omega), fun q => absurd q (by omega), fun q => absurd q (by omega), fun q => absurd q (by omega), fun q => absurd q (by omega), fun q => absurd q (by omega), fun q => absurd q (by omega), fun q => absurd q (by omega), fun q => absurd q (by omega), fun q => absurd q (by omega), fun q => absurd q (by omega), fun q => absurd q (by omega), fun q => absurd q (by omega), fun q => absurd q (by omega), fun q => absurd q (by omega), fun _ => h, fun q => absurd q (by omega), fun q => absurd q (by omega), fun q => absurd q (by omega), fun q => absurd q (by omega), fun q => absurd q (by omega)⟩
theorem sm_ci_g25 {op a b H T D L hT hL tT lL k si nf ns aA f H1 T1 L1 jH jT jL : Int} (ho : op = 25 ∨ op = 26) (h : (0 ≤ H - 1 ∧ (0 ≤ T → hT ≤ H - 1) ∧ (0 ≤ L → hL ≤ H - 1))) : sm_ci op a b H T D L hT hL tT lL k si nf ns aA f H1 T1 L1 jH jT jL := ⟨fun q => absurd q (by omega), fun q => absurd q (by omega), fun q => absurd q (by omega), fun q => absurd q (by omega), fun q => absurd q (by omega), fun q => absurd q (by omega), fun q => absurd q (by omega), fun q => absurd q (by omega), fun q => absurd q (by omega), fun q => absurd q (by omega), fun q => absurd q (by omega), fun q => absurd q (by omega), fun q => absurd q (by omega), fun q => absurd q (by omega), fun q => absurd q (by omega), fun q => absurd q (by omega), fun q => absurd q (by omega), fun q => absurd q (by omega), fun q => absurd q (by omega), fun _ => h, fun q => absurd q (by omega), fun q => absurd q (by omega), fun q => absurd q (by omega), fun q => absurd q (by omega)⟩
theorem sm_dl_ld {op a : Int} (h : op = 1 ∨ op = 3 ∨ op = 5) : sm_dl op a = 1 := by unfold sm_dl; rw [if_pos (by omega)]
theorem sm_dl_st {op a : Int} (h : op = 2 ∨ op = 4) : sm_dl op a = 0 := by unfold sm_dl; rw [if_neg (by omega), if_neg (by omega), if_neg (by omega), if_neg (by omega), if_neg (by omega), if_neg (by omega)]
theorem sm_nt_o {op k T tT : Int} (h : ¬ op = 27) (h2 : ¬ op = 28) : sm_nt op k T tT = T := by unfold sm_nt; rw [if_neg h, if_neg h2]
theorem sm_nd_o {op D : Int} (h : ¬ op = 27) (h2 : ¬ op = 28) : sm_nd op D = D := by unfold sm_nd; rw [if_neg h, if_neg h2]
theorem sm_nl_o {op k H L hL lL : Int} (h : ¬ op = 29) (h2 : ¬ op = 17) : sm_nl op k H L hL lL = L := by unfold sm_nl; rw [if_neg h, if_neg (fun q => h2 q.1)]
def sm_ju (o : Int) : Prop := (21 ≤ o ∧ o ≤ 24) ∨ o = 27 ∨ o = 30
def sm_fa (o : Int) : Prop := ¬ o = 21 ∧ ¬ o = 25 ∧ ¬ o = 26
/-- a variable: so many functions out, among that one's -/
def sm_vv (ar vs vm : Int → Int) (f x y : Int) : Prop := 0 ≤ x ∧ sm_UA ar f x ∧ ∃ i : Int, 0 ≤ i ∧ i < vm (sm_ua ar f x) ∧ vs (100 * sm_ua ar f x + i) = y
def sm_P1 (op a b fo Ht Tr Td Ls Mh Mt Ml Mf ar vs vm : Int → Int) (n mk f nf ns si k : Int) : Prop :=
  (0 ≤ op k ∧ op k ≤ 30 ∧ 0 ≤ fo k ∧ fo k < nf) ∧
  sm_ci (op k) (a k) (b k) (Ht k) (Tr k) (Td k) (Ls k) (Ht (Tr k)) (Ht (Ls k)) (Tr (Tr k)) (Ls (Ls k)) k si nf ns (ar (a k)) (fo k) (Ht (k + 1)) (Tr (k + 1)) (Ls (k + 1)) (Mh (a k)) (Mt (a k)) (Ml (a k)) ∧
  (sm_ju (op k) → 0 ≤ a k ∧ a k < mk ∧ Mf (a k) = fo k) ∧
  (sm_fa (op k) → (k + 1 < n → fo (k + 1) = fo k) ∧ (k + 1 = n → f = fo k)) ∧
  (op k = 1 ∨ op k = 2 → sm_vv ar vs vm (fo k) (a k) (b k))
def sm_Q0 (op fo Ht Tr Td Ls : Int → Int) (k g : Int) : Prop :=
  (0 ≤ Ht k ∧ Ht k ≤ k + 2 ∧ -1 ≤ Tr k ∧ Tr k < k ∧ 0 ≤ Td k ∧ Td k ≤ 40 ∧ -1 ≤ Ls k ∧ Ls k < k) ∧
  (0 ≤ Tr k → op (Tr k) = 27 ∧ fo (Tr k) = g ∧ Td k = Td (Tr k) + 1) ∧ (Tr k = -1 → Td k = 0) ∧
  (0 ≤ Ls k → op (Ls k) = 29 ∧ fo (Ls k) = g ∧ Ht (Ls k) ≤ Ht k ∧ 1 ≤ Ht (Ls k)) ∧
  (0 ≤ Tr k → ∀ s : Int, 0 ≤ s → s < Ht (Tr k) → sm_il Ht Ls (Ls k) s = sm_il Ht Ls (Ls (Tr k)) s)
def sm_mp (fo Ht Tr Ls pa Mh Mt Ml Mf : Int → Int) (n f m : Int) : Prop :=
  0 ≤ pa m ∧ pa m ≤ n ∧ Ht (pa m) = Mh m ∧ Tr (pa m) = Mt m ∧ Ls (pa m) = Ml m ∧ (pa m < n → fo (pa m) = Mf m) ∧ (pa m = n → f = Mf m)
def sm_KC (op a b fo Ht Tr Td Ls pa Mh Mt Ml Mf Mp ar vs vm : Int → Int) (n mk f nf ns si : Int) : Prop :=
  (0 ≤ n ∧ n ≤ 600 ∧ 0 ≤ f ∧ f < nf ∧ 0 ≤ mk) ∧
  (∀ k : Int, 0 ≤ k → k < n → sm_P1 op a b fo Ht Tr Td Ls Mh Mt Ml Mf ar vs vm n mk f nf ns si k ∧ sm_Q0 op fo Ht Tr Td Ls k (fo k)) ∧
  sm_Q0 op fo Ht Tr Td Ls n f ∧
  (∀ m : Int, 0 ≤ m → m < mk → Mp m = 1 → sm_mp fo Ht Tr Ls pa Mh Mt Ml Mf n f m)
theorem sm_il_F {Ht Ls Ht' Ls' : Int → Int} {m : Int} (e1 : ∀ k : Int, k < m → Ht' k = Ht k) (e2 : ∀ k : Int, k < m → Ls' k = Ls k) (s : Int) : ∀ (j : Nat) (q : Int), (q + 1).toNat = j → q < m → sm_il Ht' Ls' q s = sm_il Ht Ls q s := by
  intro j
  induction j using Nat.strongRecOn with
  | ind j ih =>
    intro q hq hm
    by_cases h : 0 ≤ q ∧ Ls q < q
    · have h' : 0 ≤ q ∧ Ls' q < q := by rw [e2 q hm]; exact h
      by_cases hs : s = Ht q - 1
      · rw [sm_il_y h hs, sm_il_y h' (by rw [e1 q hm]; exact hs)]
      · rw [sm_il_s h hs, sm_il_s h' (by rw [e1 q hm]; exact hs), e2 q hm]
        exact ih _ (by omega) (Ls q) rfl (by omega)
    · have h' : ¬ (0 ≤ q ∧ Ls' q < q) := by rw [e2 q hm]; exact h
      rw [sm_il.eq_def, dif_neg h', sm_il.eq_def, dif_neg h]
theorem sm_il_f {Ht Ls Ht' Ls' : Int → Int} {m q : Int} (e1 : ∀ k : Int, k < m → Ht' k = Ht k) (e2 : ∀ k : Int, k < m → Ls' k = Ls k) (hq : q < m) (s : Int) : sm_il Ht' Ls' q s = sm_il Ht Ls q s := sm_il_F e1 e2 s _ q rfl hq

/-- what held of a place holds where the rows are as they were below -/
theorem sm_Q0_F {op fo Ht Tr Td Ls op' fo' Ht' Tr' Td' Ls' : Int → Int} {k g m : Int} (h : sm_Q0 op fo Ht Tr Td Ls k g) (hk : k < m) (hl : 0 ≤ Tr k → Ls (Tr k) < m)
    (e1 : ∀ i : Int, i < m - 1 → op' i = op i) (e2 : ∀ i : Int, i < m - 1 → fo' i = fo i) (e3 : ∀ i : Int, i < m → Ht' i = Ht i) (e4 : ∀ i : Int, i < m → Tr' i = Tr i) (e5 : ∀ i : Int, i < m → Td' i = Td i) (e6 : ∀ i : Int, i < m → Ls' i = Ls i) : sm_Q0 op' fo' Ht' Tr' Td' Ls' k g := by
  obtain ⟨a1, a2, a3, a4, a5⟩ := h
  unfold sm_Q0
  rw [e3 k hk, e4 k hk, e5 k hk, e6 k hk]
  refine ⟨a1, fun z => ?_, a3, fun z => ?_, fun z s s0 s1 => ?_⟩
  · rw [e1 _ (by omega), e2 _ (by omega), e5 _ (by omega)]; exact a2 z
  · rw [e1 _ (by omega), e2 _ (by omega), e3 _ (by omega)]; exact a4 z
  · rw [e3 _ (by omega)] at s1
    rw [e6 (Tr k) (by omega), sm_il_f e3 e6 (by omega), sm_il_f e3 e6 (hl z)]
    exact a5 z s s0 s1
theorem sm_ci_j {op a b H T D L hT hL tT lL k si nf ns aA f H1 T1 L1 jH jT jL jH2 jT2 jL2 : Int} (h : sm_ci op a b H T D L hT hL tT lL k si nf ns aA f H1 T1 L1 jH jT jL) (hj : ¬ sm_ju op) : sm_ci op a b H T D L hT hL tT lL k si nf ns aA f H1 T1 L1 jH2 jT2 jL2 := by
  unfold sm_ju at hj
  exact ⟨h.1, h.2.1, h.2.2.1, h.2.2.2.1, h.2.2.2.2.1, h.2.2.2.2.2.1, h.2.2.2.2.2.2.1, h.2.2.2.2.2.2.2.1, h.2.2.2.2.2.2.2.2.1, h.2.2.2.2.2.2.2.2.2.1, h.2.2.2.2.2.2.2.2.2.2.1, h.2.2.2.2.2.2.2.2.2.2.2.1, h.2.2.2.2.2.2.2.2.2.2.2.2.1, h.2.2.2.2.2.2.2.2.2.2.2.2.2.1, h.2.2.2.2.2.2.2.2.2.2.2.2.2.2.1, h.2.2.2.2.2.2.2.2.2.2.2.2.2.2.2.1, fun q => absurd q (by omega), fun q => absurd q (by omega), fun q => absurd q (by omega), h.2.2.2.2.2.2.2.2.2.2.2.2.2.2.2.2.2.2.2.1, fun q => absurd q (by omega), h.2.2.2.2.2.2.2.2.2.2.2.2.2.2.2.2.2.2.2.2.2.1, h.2.2.2.2.2.2.2.2.2.2.2.2.2.2.2.2.2.2.2.2.2.2.1, fun q => absurd q (by omega)⟩
theorem sm_ci_x {op a b H T D L hT hL tT lL k si nf ns aA f H1 T1 L1 jH jT jL H2 T2 L2 : Int} (h : sm_ci op a b H T D L hT hL tT lL k si nf ns aA f H1 T1 L1 jH jT jL) (hf : ¬ sm_fa op) : sm_ci op a b H T D L hT hL tT lL k si nf ns aA f H2 T2 L2 jH jT jL := by
  have hf2 : op = 21 ∨ op = 25 ∨ op = 26 := by unfold sm_fa at hf; omega
  exact ⟨fun q => absurd q (by omega), fun q => absurd q (by omega), fun q => absurd q (by omega), fun q => absurd q (by omega), fun q => absurd q (by omega), fun q => absurd q (by omega), fun q => absurd q (by omega), fun q => absurd q (by omega), fun q => absurd q (by omega), fun q => absurd q (by omega), fun q => absurd q (by omega), fun q => absurd q (by omega), fun q => absurd q (by omega), fun q => absurd q (by omega), fun q => absurd q (by omega), fun q => absurd q (by omega), h.2.2.2.2.2.2.2.2.2.2.2.2.2.2.2.2.1, fun q => absurd q (by omega), fun q => absurd q (by omega), h.2.2.2.2.2.2.2.2.2.2.2.2.2.2.2.2.2.2.2.1, fun q => absurd q (by omega), fun q => absurd q (by omega), fun q => absurd q (by omega), fun q => absurd q (by omega)⟩
theorem sm_ci_si {op a b H T D L hT hL tT lL k si nf ns aA f H1 T1 L1 jH jT jL si2 : Int} (h : sm_ci op a b H T D L hT hL tT lL k si nf ns aA f H1 T1 L1 jH jT jL) (hs : si ≤ si2) : sm_ci op a b H T D L hT hL tT lL k si2 nf ns aA f H1 T1 L1 jH jT jL := ⟨h.1, h.2.1, h.2.2.1, h.2.2.2.1, fun q => ⟨⟨(h.2.2.2.2.1 q).1.1, by have := (h.2.2.2.2.1 q).1.2; omega⟩, (h.2.2.2.2.1 q).2⟩, h.2.2.2.2.2.1, h.2.2.2.2.2.2.1, h.2.2.2.2.2.2.2.1, h.2.2.2.2.2.2.2.2.1, h.2.2.2.2.2.2.2.2.2.1, h.2.2.2.2.2.2.2.2.2.2.1, fun q => ⟨⟨(h.2.2.2.2.2.2.2.2.2.2.2.1 q).1.1, (h.2.2.2.2.2.2.2.2.2.2.2.1 q).1.2.1, (h.2.2.2.2.2.2.2.2.2.2.2.1 q).1.2.2.1, by have := (h.2.2.2.2.2.2.2.2.2.2.2.1 q).1.2.2.2; omega⟩, (h.2.2.2.2.2.2.2.2.2.2.2.1 q).2⟩, h.2.2.2.2.2.2.2.2.2.2.2.2.1, h.2.2.2.2.2.2.2.2.2.2.2.2.2.1, h.2.2.2.2.2.2.2.2.2.2.2.2.2.2.1, h.2.2.2.2.2.2.2.2.2.2.2.2.2.2.2.1, h.2.2.2.2.2.2.2.2.2.2.2.2.2.2.2.2.1, h.2.2.2.2.2.2.2.2.2.2.2.2.2.2.2.2.2.1, h.2.2.2.2.2.2.2.2.2.2.2.2.2.2.2.2.2.2.1, h.2.2.2.2.2.2.2.2.2.2.2.2.2.2.2.2.2.2.2.1, h.2.2.2.2.2.2.2.2.2.2.2.2.2.2.2.2.2.2.2.2.1, h.2.2.2.2.2.2.2.2.2.2.2.2.2.2.2.2.2.2.2.2.2.1, h.2.2.2.2.2.2.2.2.2.2.2.2.2.2.2.2.2.2.2.2.2.2.1, h.2.2.2.2.2.2.2.2.2.2.2.2.2.2.2.2.2.2.2.2.2.2.2⟩
theorem sm_ci_lo29 {a b H T D L hT hL tT lL k si nf ns aA f H1 T1 L1 jH jT jL : Int} (h : sm_ci 29 a b H T D L hT hL tT lL k si nf ns aA f H1 T1 L1 jH jT jL) (z : 0 ≤ L) : hL ≤ H - 1 := (h.2.2.2.2.2.2.2.2.2.2.2.2.2.2.2.2.2.2.2.2.2.2.1 rfl).1.2.2 z
theorem sm_ci_lo27 {a b H T D L hT hL tT lL k si nf ns aA f H1 T1 L1 jH jT jL : Int} (h : sm_ci 27 a b H T D L hT hL tT lL k si nf ns aA f H1 T1 L1 jH jT jL) (z : 0 ≤ T) : hT ≤ H := (h.2.2.2.2.2.2.2.2.2.2.2.2.2.2.2.2.2.2.2.2.1 rfl).2.1.2.1 z
theorem sm_ci_e {op a b H T D L hT hL tT lL k si nf ns aA f H1 T1 L1 jH jT jL op' a' b' H' T' D' L' hT' hL' tT' lL' aA' f' H2 T2 L2 : Int} (h : sm_ci op a b H T D L hT hL tT lL k si nf ns aA f H1 T1 L1 jH jT jL) (e1 : op' = op) (e2 : a' = a) (e3 : b' = b) (e4 : H' = H) (e5 : T' = T) (e6 : D' = D) (e7 : L' = L) (e8 : hT' = hT) (e9 : hL' = hL) (e10 : tT' = tT) (e11 : lL' = lL) (e12 : aA' = aA) (e13 : f' = f) (e14 : H2 = H1) (e15 : T2 = T1) (e16 : L2 = L1) : sm_ci op' a' b' H' T' D' L' hT' hL' tT' lL' k si nf ns aA' f' H2 T2 L2 jH jT jL := by
  subst e1 e2 e3 e4 e5 e6 e7 e8 e9 e10 e11 e12 e13 e14 e15 e16
  exact h
section CODER
variable {op a b fo Ht Tr Td Ls pa Mh Mt Ml Mf Mp ar vs vm : Int → Int} {n mk f nf ns si : Int}
theorem sm_KC_n (h : sm_KC op a b fo Ht Tr Td Ls pa Mh Mt Ml Mf Mp ar vs vm n mk f nf ns si) : (0 ≤ n ∧ n ≤ 600 ∧ 0 ≤ f ∧ f < nf ∧ 0 ≤ mk) ∧ (0 ≤ Ht n ∧ Ht n ≤ n + 2 ∧ -1 ≤ Tr n ∧ Tr n < n ∧ 0 ≤ Td n ∧ Td n ≤ 40 ∧ -1 ≤ Ls n ∧ Ls n < n) ∧ (0 ≤ Ls n → op (Ls n) = 29 ∧ Ht (Ls n) ≤ Ht n ∧ 1 ≤ Ht (Ls n)) ∧ (0 ≤ Tr n → op (Tr n) = 27 ∧ Td n = Td (Tr n) + 1) ∧ (Tr n = -1 → Td n = 0) :=
  ⟨h.1, h.2.2.1.1, fun z => ⟨(h.2.2.1.2.2.2.1 z).1, (h.2.2.1.2.2.2.1 z).2.2⟩, fun z => ⟨(h.2.2.1.2.1 z).1, (h.2.2.1.2.1 z).2.2⟩, h.2.2.1.2.2.1⟩
/-- an instruction comes -/
theorem sm_KC_emit (h : sm_KC op a b fo Ht Tr Td Ls pa Mh Mt Ml Mf Mp ar vs vm n mk f nf ns si) {p1 p2 p3 x1 x2 x3 x4 i1 i2 i3 i4 j1 j2 j3 j4 g n' : Int} (hn : n < 600) (ho : 0 ≤ p1 ∧ p1 ≤ 30)
    (e : sm_ci p1 p2 p3 (Ht n) (Tr n) (Td n) (Ls n) (Ht (Tr n)) (Ht (Ls n)) (Tr (Tr n)) (Ls (Ls n)) n si nf ns (ar p2) f x1 x2 x4 (Mh p2) (Mt p2) (Ml p2))
    (ej : sm_ju p1 → 0 ≤ p2 ∧ p2 < mk ∧ Mf p2 = f) (ev : p1 = 1 ∨ p1 = 2 → sm_vv ar vs vm f p2 p3)
    (w1 : x1 = Ht n + sm_dl p1 p2) (w2 : x2 = sm_nt p1 n (Tr n) (Tr (Tr n))) (w3 : x3 = sm_nd p1 (Td n)) (w4 : x4 = sm_nl p1 n (Ht n) (Ls n) (Ht (Ls n)) (Ls (Ls n)))
    (hi : i1 = n ∧ i2 = n ∧ i3 = n ∧ i4 = n) (hj : j1 = n + 1 ∧ j2 = n + 1 ∧ j3 = n + 1 ∧ j4 = n + 1) (hg : g = f) (hn' : n' = n + 1) :
    sm_KC (fun i' : Int => if i' = i1 then p1 else op i') (fun i' : Int => if i' = i2 then p2 else a i') (fun i' : Int => if i' = i3 then p3 else b i') (fun i' : Int => if i' = i4 then g else fo i')
      (fun i' : Int => if i' = j1 then x1 else Ht i') (fun i' : Int => if i' = j2 then x2 else Tr i') (fun i' : Int => if i' = j3 then x3 else Td i') (fun i' : Int => if i' = j4 then x4 else Ls i') pa Mh Mt Ml Mf Mp ar vs vm n' mk f nf ns si := by
  obtain ⟨hi1, hi2, hi3, hi4⟩ := hi
  obtain ⟨hj1, hj2, hj3, hj4⟩ := hj
  subst i1 i2 i3 i4 j1 j2 j3 j4 g n'
  obtain ⟨⟨n0, n1, f0, f1, m0⟩, A, B, C⟩ := h
  have b1 := B.1
  -- rows as they were
  have Eo : ∀ (r : Int → Int) (x i : Int), i < n → (fun i' : Int => if i' = n then x else r i') i = r i := fun r x i q => if_neg (by omega)
  have Eh : ∀ (r : Int → Int) (x i : Int), i < n + 1 → (fun i' : Int => if i' = n + 1 then x else r i') i = r i := fun r x i q => if_neg (by omega)
  have En : ∀ (r : Int → Int) (x : Int), (fun i' : Int => if i' = n then x else r i') n = x := fun r x => if_pos rfl
  have Ex : ∀ (r : Int → Int) (x : Int), (fun i' : Int => if i' = n + 1 then x else r i') (n + 1) = x := fun r x => if_pos rfl
  generalize hop : (fun i' : Int => if i' = n then p1 else op i') = op'
  generalize ha : (fun i' : Int => if i' = n then p2 else a i') = a'
  generalize hb : (fun i' : Int => if i' = n then p3 else b i') = b'
  generalize hfo : (fun i' : Int => if i' = n then f else fo i') = fo'
  generalize hHt : (fun i' : Int => if i' = n + 1 then x1 else Ht i') = Ht'
  generalize hTr : (fun i' : Int => if i' = n + 1 then x2 else Tr i') = Tr'
  generalize hTd : (fun i' : Int => if i' = n + 1 then x3 else Td i') = Td'
  generalize hLs : (fun i' : Int => if i' = n + 1 then x4 else Ls i') = Ls'
  have o1 : ∀ i : Int, i < n → op' i = op i := fun i q => by rw [← hop]; exact Eo op p1 i q
  have o2 : ∀ i : Int, i < n → a' i = a i := fun i q => by rw [← ha]; exact Eo a p2 i q
  have o3 : ∀ i : Int, i < n → b' i = b i := fun i q => by rw [← hb]; exact Eo b p3 i q
  have o4 : ∀ i : Int, i < n → fo' i = fo i := fun i q => by rw [← hfo]; exact Eo fo f i q
  have o5 : ∀ i : Int, i < n + 1 → Ht' i = Ht i := fun i q => by rw [← hHt]; exact Eh Ht x1 i q
  have o6 : ∀ i : Int, i < n + 1 → Tr' i = Tr i := fun i q => by rw [← hTr]; exact Eh Tr x2 i q
  have o7 : ∀ i : Int, i < n + 1 → Td' i = Td i := fun i q => by rw [← hTd]; exact Eh Td x3 i q
  have o8 : ∀ i : Int, i < n + 1 → Ls' i = Ls i := fun i q => by rw [← hLs]; exact Eh Ls x4 i q
  have p1' : op' n = p1 := by rw [← hop]; exact En op p1
  have p2' : a' n = p2 := by rw [← ha]; exact En a p2
  have p3' : b' n = p3 := by rw [← hb]; exact En b p3
  have p4' : fo' n = f := by rw [← hfo]; exact En fo f
  have p5' : Ht' (n + 1) = x1 := by rw [← hHt]; exact Ex Ht x1
  have p6' : Tr' (n + 1) = x2 := by rw [← hTr]; exact Ex Tr x2
  have p7' : Td' (n + 1) = x3 := by rw [← hTd]; exact Ex Td x3
  have p8' : Ls' (n + 1) = x4 := by rw [← hLs]; exact Ex Ls x4
  clear hop ha hb hfo hHt hTr hTd hLs Eo Eh En Ex
  have q0 : ∀ k : Int, 0 ≤ k → k < n → sm_Q0 op fo Ht Tr Td Ls k (fo k) := fun k k0 k1 => (A k k0 k1).2
  have o1' : ∀ i : Int, i < n + 1 - 1 → op' i = op i := fun i q => o1 i (by omega)
  have o4' : ∀ i : Int, i < n + 1 - 1 → fo' i = fo i := fun i q => o4 i (by omega)
  refine ⟨⟨by omega, by omega, f0, f1, m0⟩, fun k k0 k1 => ?_, ?_, fun m mm0 mm1 mm2 => ?_⟩
  · by_cases hk : k < n
    · obtain ⟨⟨r1, r2, r3, r4, r5⟩, qk⟩ := A k k0 hk
      have qb := qk.1
      refine ⟨⟨?_, ?_, ?_, ?_, ?_⟩, ?_⟩
      · rw [o1 k hk, o4 k hk]; exact r1
      · exact sm_ci_e (by rw [o2 k hk]; exact r2) (o1 k hk) (o2 k hk) (o3 k hk) (o5 k (by omega)) (o6 k (by omega)) (o7 k (by omega)) (o8 k (by omega)) (by rw [o6 k (by omega), o5 _ (by omega)]) (by rw [o8 k (by omega), o5 _ (by omega)]) (by rw [o6 k (by omega), o6 _ (by omega)]) (by rw [o8 k (by omega), o8 _ (by omega)]) (by rw [o2 k hk]) (o4 k hk) (o5 _ (by omega)) (o6 _ (by omega)) (o8 _ (by omega))
      · rw [o1 k hk, o2 k hk, o4 k hk]; exact r3
      · rw [o1 k hk, o4 k hk]
        intro z
        refine ⟨fun z2 => ?_, fun z2 => by omega⟩
        by_cases hk2 : k + 1 < n
        · rw [o4 _ hk2]; exact (r4 z).1 hk2
        · have hk3 : k + 1 = n := by omega
          rw [hk3, p4']; exact (r4 z).2 hk3
      · rw [o1 k hk, o2 k hk, o3 k hk, o4 k hk]; exact r5
      · rw [o4 k hk]
        exact sm_Q0_F qk (by omega) (fun z => by have := (q0 (Tr k) z (by omega)).1; omega) o1' o4' o5 o6 o7 o8
    · have hk' : k = n := by omega
      subst k
      refine ⟨⟨?_, ?_, ?_, ?_, ?_⟩, ?_⟩
      · rw [p1', p4']; omega
      · exact sm_ci_e (by rw [p2']; exact e) p1' p2' p3' (o5 n (by omega)) (o6 n (by omega)) (o7 n (by omega)) (o8 n (by omega)) (by rw [o6 n (by omega), o5 _ (by omega)]) (by rw [o8 n (by omega), o5 _ (by omega)]) (by rw [o6 n (by omega), o6 _ (by omega)]) (by rw [o8 n (by omega), o8 _ (by omega)]) (by rw [p2']) p4' p5' p6' p8'
      · rw [p1', p2', p4']; exact ej
      · rw [p4']; exact fun _ => ⟨fun z => by omega, fun _ => rfl⟩
      · rw [p1', p2', p3', p4']; exact ev
      · rw [p4']
        exact sm_Q0_F B (by omega) (fun z => by have := (q0 (Tr n) z (by omega)).1; omega) o1' o4' o5 o6 o7 o8
  · -- the place behind it
    unfold sm_Q0
    rw [p5', p6', p7', p8']
    have hop : p1 = 0 ∨ p1 = 1 ∨ p1 = 2 ∨ p1 = 3 ∨ p1 = 4 ∨ p1 = 5 ∨ p1 = 6 ∨ p1 = 7 ∨ p1 = 8 ∨ p1 = 9 ∨ p1 = 10 ∨ p1 = 11 ∨ p1 = 12 ∨ p1 = 13 ∨ p1 = 14 ∨ p1 = 15 ∨ p1 = 16 ∨ p1 = 17 ∨ p1 = 18 ∨ p1 = 19 ∨ p1 = 20 ∨ p1 = 21 ∨ p1 = 22 ∨ p1 = 23 ∨ p1 = 24 ∨ p1 = 25 ∨ p1 = 26 ∨ p1 = 27 ∨ p1 = 28 ∨ p1 = 29 ∨ p1 = 30 := by omega
    obtain ⟨c1, c2, c3, c4, c5⟩ := B
    -- open tries
    have T1 : (x2 = Tr n ∧ x3 = Td n ∧ ¬ p1 = 27 ∧ ¬ p1 = 28) ∨ (p1 = 27 ∧ x2 = n ∧ x3 = Td n + 1) ∨ (p1 = 28 ∧ x2 = Tr (Tr n) ∧ x3 = Td n - 1) := by
      unfold sm_nt at w2
      unfold sm_nd at w3
      by_cases z : p1 = 27
      · rw [if_pos z] at w2 w3; exact Or.inr (Or.inl ⟨z, w2, w3⟩)
      · rw [if_neg z] at w2 w3
        by_cases z2 : p1 = 28
        · rw [if_pos z2] at w2 w3; exact Or.inr (Or.inr ⟨z2, w2, w3⟩)
        · rw [if_neg z2] at w2 w3; exact Or.inl ⟨w2, w3, z, z2⟩
    have L1 : (x4 = Ls n ∧ ¬ p1 = 29) ∨ (p1 = 29 ∧ x4 = n) ∨ (p1 = 17 ∧ 0 ≤ Ls n ∧ Ht (Ls n) = Ht n ∧ x4 = Ls (Ls n)) := by
      unfold sm_nl at w4
      by_cases z : p1 = 29
      · rw [if_pos z] at w4; exact Or.inr (Or.inl ⟨z, w4⟩)
      · rw [if_neg z] at w4
        by_cases z2 : p1 = 17 ∧ 0 ≤ Ls n ∧ Ht (Ls n) = Ht n
        · rw [if_pos z2] at w4; exact Or.inr (Or.inr ⟨z2.1, z2.2.1, z2.2.2, w4⟩)
        · rw [if_neg z2] at w4; exact Or.inl ⟨w4, z⟩
    -- heights
    have qL : 0 ≤ Ls n → Ls (Ls n) < Ls n := fun z => by
      have := (q0 (Ls n) z (by omega)).1
      omega
    have HH : 0 ≤ x1 ∧ x1 ≤ n + 1 + 2 ∧ (0 ≤ x4 → x4 = Ls n → Ht (Ls n) ≤ x1) ∧ (p1 = 28 → 0 ≤ Tr n) ∧ (p1 = 27 → Td n < 40) ∧ (p1 = 29 → 1 ≤ Ht n ∧ (0 ≤ Tr n → Ht (Tr n) ≤ Ht n - 1)) ∧ (p1 = 29 → x1 = Ht n) ∧ (p1 = 17 → x1 = Ht n - 1 ∧ (0 ≤ Tr n → Ht (Tr n) ≤ Ht n - 1)) := by
      unfold sm_dl at w1
      rcases hop with z | z | z | z | z | z | z | z | z | z | z | z | z | z | z | z | z | z | z | z | z | z | z | z | z | z | z | z | z | z | z <;> subst z <;> simp at w1
      · have q := e.1 rfl
        omega
      · have q := e.2.1 (Or.inl rfl)
        omega
      · have q := e.2.2.1 (Or.inl rfl)
        omega
      · have q := e.2.1 (Or.inr (Or.inl rfl))
        omega
      · have q := e.2.2.1 (Or.inr rfl)
        omega
      · have q := e.2.1 (Or.inr (Or.inr rfl))
        omega
      · have q := e.2.2.2.1 rfl
        omega
      · have q := e.2.2.2.2.1 (Or.inl rfl)
        omega
      · have q := e.2.2.2.2.1 (Or.inr rfl)
        omega
      · have q := e.2.2.2.2.2.1 rfl
        omega
      · have q := e.2.2.2.2.2.2.1 (Or.inl rfl)
        omega
      · have q := e.2.2.2.2.2.2.2.1 rfl
        omega
      · have q := e.2.2.2.2.2.2.1 (Or.inr rfl)
        omega
      · have q := e.2.2.2.2.2.2.2.2.1 rfl
        omega
      · have q := e.2.2.2.2.2.2.2.2.2.1 rfl
        omega
      · have q := e.2.2.2.2.2.2.2.2.2.2.1 rfl
        omega
      · have q := e.2.2.2.2.2.2.2.2.2.2.2.1 rfl
        omega
      · have q := e.2.2.2.2.2.2.2.2.2.2.2.2.1 rfl
        omega
      · have q := e.2.2.2.2.2.2.2.2.2.2.2.2.2.1 rfl
        omega
      · have q := e.2.2.2.2.2.2.2.2.2.2.2.2.2.2.1 rfl
        omega
      · have q := e.2.2.2.2.2.2.2.2.2.2.2.2.2.2.2.1 rfl
        omega
      · have q := e.2.2.2.2.2.2.2.2.2.2.2.2.2.2.2.2.1 rfl
        omega
      · have q := e.2.2.2.2.2.2.2.2.2.2.2.2.2.2.2.2.2.1 rfl
        omega
      · have q := e.2.2.2.2.2.2.2.2.2.2.2.2.2.2.2.2.2.2.1 (Or.inl rfl)
        omega
      · have q := e.2.2.2.2.2.2.2.2.2.2.2.2.2.2.2.2.2.2.1 (Or.inr rfl)
        omega
      · have q := e.2.2.2.2.2.2.2.2.2.2.2.2.2.2.2.2.2.2.2.1 (Or.inl rfl)
        omega
      · have q := e.2.2.2.2.2.2.2.2.2.2.2.2.2.2.2.2.2.2.2.1 (Or.inr rfl)
        omega
      · have q := e.2.2.2.2.2.2.2.2.2.2.2.2.2.2.2.2.2.2.2.2.1 rfl
        omega
      · have q := e.2.2.2.2.2.2.2.2.2.2.2.2.2.2.2.2.2.2.2.2.2.1 rfl
        omega
      · have q := e.2.2.2.2.2.2.2.2.2.2.2.2.2.2.2.2.2.2.2.2.2.2.1 rfl
        omega
      · have q := e.2.2.2.2.2.2.2.2.2.2.2.2.2.2.2.2.2.2.2.2.2.2.2 rfl
        omega
    have Q := q0
    refine ⟨?_, fun z => ?_, fun z => ?_, fun z => ?_, fun z s s0 s1 => ?_⟩
    · rcases T1 with t | t | t <;> rcases L1 with l | l | l
      all_goals first | omega | (have q1 := (Q (Ls n) l.2.1 (by omega)).1; omega) | (have q1 := (Q (Tr n) (HH.2.2.2.1 t.1) (by omega)).1; omega) | (have q1 := (Q (Ls n) l.2.1 (by omega)).1; have q2 := (Q (Tr n) (HH.2.2.2.1 t.1) (by omega)).1; omega)
    · rcases T1 with t | t | t
      · rw [t.1] at z ⊢
        rw [t.2.1, o1 _ (by omega), o4 _ (by omega), o7 _ (by omega)]; exact c2 z
      · rw [t.2.1, p1', p4', o7 n (by omega)]; exact ⟨t.1, rfl, t.2.2⟩
      · have q1 := Q (Tr n) (HH.2.2.2.1 t.1) (by omega)
        rw [t.2.1] at z ⊢
        have q3 := q1.2.1 z
        have q4 := c2 (HH.2.2.2.1 t.1)
        have q5 := q1.1
        rw [o1 _ (by omega), o4 _ (by omega), o7 _ (by omega)]
        exact ⟨q3.1, q3.2.1.trans q4.2.1, by omega⟩
    · rcases T1 with t | t | t
      · rw [t.1] at z; rw [t.2.1]; exact c3 z
      · omega
      · have q1 := Q (Tr n) (HH.2.2.2.1 t.1) (by omega)
        rw [t.2.1] at z
        have q3 := q1.2.2.1 z
        have q4 := c2 (HH.2.2.2.1 t.1)
        omega
    · rcases L1 with l | l | l
      · rw [l.1] at z ⊢
        have q4 := c4 z
        rw [o1 _ (by omega), o4 _ (by omega), o5 _ (by omega)]
        exact ⟨q4.1, q4.2.1, by have := HH.2.2.1 (by omega) l.1; omega, q4.2.2.2⟩
      · rw [l.2, p1', p4', o5 n (by omega)]
        have := HH.2.2.2.2.2.1 l.1
        have := HH.2.2.2.2.2.2.1 l.1
        exact ⟨l.1, rfl, by omega, by omega⟩
      · rw [l.2.2.2] at z ⊢
        have q1 := Q (Ls n) l.2.1 (by omega)
        have q4 := c4 l.2.1
        have q3 := q1.2.2.2.1 z
        have q5 := q1.1
        have q6 := (A (Ls n) l.2.1 (by omega)).1.2.1
        rw [q4.1] at q6
        have q7 := sm_ci_lo29 q6 z
        have q8 := HH.2.2.2.2.2.2.2 l.1
        rw [o1 _ (by omega), o4 _ (by omega), o5 _ (by omega)]
        exact ⟨q3.1, q3.2.1.trans q4.2.1, by omega, q3.2.2.2⟩
    · -- lists below an open TRY
      have I1 : ∀ (q : Int), q < n + 1 → sm_il Ht' Ls' q s = sm_il Ht Ls q s := fun q hq => sm_il_f o5 o8 hq s
      have X4 : x4 < n + 1 := by
        rcases L1 with l | l | l
        · omega
        · omega
        · have q1 := (Q (Ls n) l.2.1 (by omega)).1
          omega
      have X2 : x2 < n + 1 := by
        rcases T1 with t | t | t
        · omega
        · omega
        · have q1 := (Q (Tr n) (HH.2.2.2.1 t.1) (by omega)).1
          omega
      rw [o5 x2 X2] at s1
      rw [o8 x2 X2, I1 _ X4]
      have YL : Ls x2 < n + 1 := by
        rcases T1 with t | t | t
        · rw [t.1] at z ⊢; have := (Q (Tr n) z (by omega)).1; omega
        · rw [t.2.1]; omega
        · have q1 := (Q (Tr n) (HH.2.2.2.1 t.1) (by omega)).1
          rw [t.2.1] at z ⊢
          have := (Q (Tr (Tr n)) z (by omega)).1
          omega
      rw [I1 _ YL]
      rcases T1 with t | t | t
      · rw [t.1] at z s1 ⊢
        have q5 := c5 z s s0 s1
        rcases L1 with l | l | l
        · rw [l.1]; exact q5
        · rw [l.2]
          have h9 := HH.2.2.2.2.2.1 l.1
          rw [sm_il_s ⟨by omega, by omega⟩ (by have := h9.2 z; omega)]
          exact q5
        · rw [l.2.2.2]
          have h9 := (HH.2.2.2.2.2.2.2 l.1).2 z
          rw [← q5, sm_il_s (q := Ls n) ⟨l.2.1, by have := (Q (Ls n) l.2.1 (by omega)).1; omega⟩ (by omega)]
      · have l : x4 = Ls n := by
          rcases L1 with l | l | l
          · exact l.1
          · omega
          · omega
        rw [t.2.1, l]
      · have l : x4 = Ls n := by
          rcases L1 with l | l | l
          · exact l.1
          · omega
          · omega
        have z0 := HH.2.2.2.1 t.1
        have q1 := Q (Tr n) z0 (by omega)
        rw [t.2.1] at z s1 ⊢
        rw [l]
        have q7 := (A (Tr n) z0 (by omega)).1.2.1
        have q8 := c2 z0
        rw [q8.1] at q7
        have q9 := sm_ci_lo27 q7 z
        rw [c5 z0 s s0 (by omega)]
        exact q1.2.2.2.2 z s s0 s1
  · obtain ⟨d1, d2, d3, d4, d5, d6, d7⟩ := C m mm0 mm1 mm2
    unfold sm_mp
    rw [o5 _ (by omega), o6 _ (by omega), o8 _ (by omega)]
    refine ⟨d1, by omega, d3, d4, d5, fun q => ?_, fun q => by omega⟩
    by_cases z : pa m < n
    · rw [o4 _ z]; exact d6 z
    · have z' : pa m = n := by omega
      rw [z', p4']; exact d7 z'
end CODER


