/-! going out of what is around -/
/-- the cases at work are clear of all finallys from a on outwards -/
def sm_SA (Ac Wr Wa Wx R V : Int → Int) (a : Int) : Prop := ∀ c : Int, 0 ≤ c → Ac c = 1 → sm_CA Wr Wa Wx R V a (R c) 0
section SA
variable {Ac Wr Wa Wx R V : Int → Int}
theorem sm_SA_SF {a q v : Int} (h : sm_SF Ac Wr Wa Wx R V a q v) : sm_SA Ac Wr Wa Wx R V a := fun c h0 h1 => (h c h0 h1).2
theorem sm_SA_o {a : Int} (h : sm_SA Ac Wr Wa Wx R V a) (k : 0 ≤ a ∧ Wa a < a) : sm_SA Ac Wr Wa Wx R V (Wa a) := fun c h0 h1 => sm_CA_o (h c h0 h1) k
theorem sm_SA_lv {w v : Int} (h : sm_SA Ac Wr Wa Wx R V w) (k : 0 ≤ w ∧ Wa w < w) (e : Wr w = 1) : sm_SF Ac Wr Wa Wx R V (Wa w) (Wx w) v := fun c h0 h1 => ⟨Or.inl (sm_CA_at (h c h0 h1) k e).1, sm_CA_o (h c h0 h1) k⟩
theorem sm_SA_F {Ac' Wr' Wa' Wx' : Int → Int} {a m : Int} (h : sm_SA Ac Wr Wa Wx R V a) (hA : ∀ c : Int, 0 ≤ c → Ac' c = 1 → Ac c = 1) (f1 : sm_F1 Wr Wr' m) (f2 : sm_F1 Wa Wa' m) (f3 : sm_F1 Wx Wx' m) (hm : a < m) : sm_SA Ac' Wr' Wa' Wx' R V a := fun c h0 h1 => sm_CA_F (h c h0 (hA c h0 h1)) f1 f2 f3 hm (Int.le_refl _)
theorem sm_SA_e {a a' : Int} (h : sm_SA Ac Wr Wa Wx R V a) (e : a' = a) : sm_SA Ac Wr Wa Wx R V a' := e ▸ h
end SA
/-- one value up: the list that lies uppermost -/
theorem sm_lw_V {op a b fo Ht Tr Td Ls pa Mh Mt Ml Mf Mp ar vs vm : Int → Int} {n mk f nf ns si h : Int} (K : sm_KC op a b fo Ht Tr Td Ls pa Mh Mt Ml Mf Mp ar vs vm n mk f nf ns si) : ∀ (j : Nat) (L : Int), (L + 1).toNat = j → L < n → (0 ≤ L → op L = 29) →
    ((0 ≤ sm_lw Ht Ls L (h + 1) ∧ Ht (sm_lw Ht Ls L (h + 1)) = h + 1 ∧ Ls (sm_lw Ht Ls L (h + 1)) = sm_lw Ht Ls L h) ∨ ((0 ≤ sm_lw Ht Ls L (h + 1) → Ht (sm_lw Ht Ls L (h + 1)) ≤ h) ∧ sm_lw Ht Ls L (h + 1) = sm_lw Ht Ls L h)) := by
  intro j
  induction j using Nat.strongRecOn with
  | ind j ih =>
    intro L hL hn ho
    by_cases c : 0 ≤ L
    · obtain ⟨⟨r1, r2, -⟩, q1, -, -, q4, -⟩ := K.2.1 L c hn
      rw [ho c] at r2
      have lo : 0 ≤ Ls L → Ht (Ls L) ≤ Ht L - 1 := fun z => sm_ci_lo29 r2 z
      have hb : Ls L < L := q1.2.2.2.2.2.2.2
      by_cases z : Ht L ≤ h
      · rw [sm_lw_y (h := h + 1) (fun _ => by omega), sm_lw_y (h := h) (fun _ => z)]
        exact Or.inr ⟨fun _ => z, rfl⟩
      · by_cases y : Ht L = h + 1
        · rw [sm_lw_y (h := h + 1) (fun _ => by omega), sm_lw_s (h := h) ⟨c, hb⟩ (by omega), sm_lw_y (L := Ls L) (h := h) (fun w => by have := lo w; omega)]
          exact Or.inl ⟨c, y, rfl⟩
        · rw [sm_lw_s (h := h + 1) ⟨c, hb⟩ (by omega), sm_lw_s (h := h) ⟨c, hb⟩ (by omega)]
          exact ih _ (by omega) (Ls L) rfl (by omega) (fun w => (q4 w).1)
    · rw [sm_lw_n (by omega), sm_lw_n (by omega)]
      exact Or.inr ⟨fun w => absurd w c, rfl⟩
