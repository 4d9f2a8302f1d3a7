
/-! small laws, told outside of the walks -/
theorem sm_h_id {i m : Int} : (if m = 0 then i else 601) = i ∨ ¬ m = 0 := by by_cases q : m = 0; exact Or.inl (if_pos q); exact Or.inr q
theorem sm_h_id3 {i m : Int} (q : i ≤ 600) : i ≤ (if m = 0 then i else 601) ∧ (if m = 0 then i else 601) ≤ 601 ∧ (m = 0 ∨ (if m = 0 then i else 601) = 601) := by
  by_cases z : m = 0
  · rw [if_pos z]; exact ⟨by omega, by omega, Or.inl z⟩
  · rw [if_neg z]; exact ⟨by omega, by omega, Or.inr rfl⟩
theorem sm_h_vlb {x v w : Int} (a : ¬ x = -1 → v ≤ w - 1) (b : 0 ≤ w) : (if x = -1 then 0 else 8 * v + 17) ≤ 8 * w + 9 := by
  by_cases q : x = -1
  · rw [if_pos q]; omega
  · rw [if_neg q]; have := a q; omega
theorem sm_h_vlr {x v w : Int} (a : ¬ x = -1 → v ≤ w - 1) (b : 0 ≤ w) : (if x = -1 then 10 else 8 * v + 18) ≤ 8 * w + 10 := by
  by_cases q : x = -1
  · rw [if_pos q]; omega
  · rw [if_neg q]; have := a q; omega
theorem sm_h_mx {a b : Int} : a ≤ (if a ≤ b then b else a) ∧ b ≤ (if a ≤ b then b else a) := by split <;> omega
theorem sm_h_mxs {a b : Int} : a ≤ (if a ≤ (b + 1) then (b + 1) else a) ∧ (b + 1) ≤ (if a ≤ (b + 1) then (b + 1) else a) := by split <;> omega
theorem sm_h_mxl {a b c : Int} (h : a ≤ c) (k : b ≤ c - 1) : (if a ≤ (b + 1) then (b + 1) else a) ≤ c := by split <;> omega
theorem sm_h_24 {x : Int} : 2 ≤ (if x = 2 then (2 : Int) else 4) ∧ (if x = 2 then (2 : Int) else 4) ≤ 4 ∧ (x = 2 → (if x = 2 then (2 : Int) else 4) = 2) ∧ (¬ x = 2 → (if x = 2 then (2 : Int) else 4) = 4) := by
  by_cases q : x = 2
  · rw [if_pos q]; exact ⟨by omega, by omega, fun _ => rfl, fun z => absurd q z⟩
  · rw [if_neg q]; exact ⟨by omega, by omega, fun z => absurd z q, fun _ => rfl⟩
theorem sm_h_gv {x y : Int} : 0 ≤ (if x = 1 then (0 : Int) else 2) + (if y = -1 then (0 : Int) else 1) ∧ (if x = 1 then (0 : Int) else 2) + (if y = -1 then (0 : Int) else 1) ≤ 3 := by (repeat' split) <;> omega
theorem sm_h_nm {ns mn x : Int} (h : sm_nm ns mn x) (a : mn = 0) : 0 ≤ x ∧ x < ns := by unfold sm_nm at h; omega
theorem sm_h_li {C M V : Int → Int} {N k e m v : Int} (h : sm_li C M V N k e m v) : -1 ≤ e := by unfold sm_li sm_ex at h; omega
theorem sm_h_fn {n g x : Int} {ar : Int → Int} (h : sm_fn n ar g x) (a : n ≤ 11) : x < n ∧ ar x = g := ⟨h.1, h.2 (by have := h.1; omega)⟩
theorem sm_h_si {m s g : Int} (q : m = 0) (e : g = s) : g ≤ (if m = 0 then s + 1 else 0) := by rw [if_pos q]; omega
theorem sm_h_si2 {m s : Int} (q : m = 0) (a : 0 ≤ s) (b : s ≤ 600) : 0 ≤ (if m = 0 then s + 1 else 0) ∧ (if m = 0 then s + 1 else 0) ≤ 601 := by rw [if_pos q]; omega
theorem sm_h_so1 {x : Int} (q : (x = 3 ∨ x = 7 ∨ x = 8 ∨ x = 11 ∨ x = 12 ∨ x = 13)) : 3 ≤ x := by omega
theorem sm_h_so2 {x : Int} (q : (x = 3 ∨ x = 7 ∨ x = 8 ∨ x = 11 ∨ x = 12 ∨ x = 13)) : (11 < x ∨ x = 4 ∨ x = 5 ∨ x = 6 ∨ x = 9 ∨ x = 10 → x = 12 ∨ x = 13) := by omega
section
variable {so wo ne C M V Lp Ws : Int → Int} {N ns mn : Int} {nf : Int → Prop}
theorem sm_h_v14 (h : sm_WF so wo ne C M V Lp Ws N ns mn nf) (e : Int) (a : 0 ≤ e) (b : e < N) (d : C e = 1) (z : so e = 8) : 0 ≤ wo (5 * e) ∧ wo (5 * e) < e := by
  have q := sm_g1_8 h e a b d z
  unfold sm_ex at q
  omega
theorem sm_h_lv3 (h : sm_WF so wo ne C M V Lp Ws N ns mn nf) (e : Int) (a : 0 ≤ e) (b : e < N) (d : C e = 3) : 0 ≤ M e ∧ 0 ≤ V e := by
  have q := sm_g3_3 h e a b d
  have r := (sm_gx h _ q.1 q.2.1).1 q.2.2.1
  have r2 := (sm_gx h e a b).2.2.2 d
  have q3 := q.2.2.2
  omega
theorem sm_h_lv4 (h : sm_WF so wo ne C M V Lp Ws N ns mn nf) (e : Int) (a : 0 ≤ e) (b : e < N) (d : C e = 4) : 0 ≤ M e ∧ 0 ≤ V e := by
  have q := (sm_g3_4 h e a b d).1
  have r := (sm_gx h _ q.1 q.2.1).1 q.2.2.1
  have q3 := q.2.2.2
  omega
end
section
variable {op a b fo Ht Tr Td Ls pa Mh Mt Ml Mf Mp ar vs vm : Int → Int} {n mk f nf ns si : Int}
theorem sm_h_set (h : sm_KC op a b fo Ht Tr Td Ls pa Mh Mt Ml Mf Mp ar vs vm n mk f nf ns si) {k : Int} (hk : 0 ≤ k ∧ k < n) : Ht k ≤ Ht k ∧ Ht k ≤ n + 2 := by
  have := (h.2.1 k hk.1 hk.2).2.1
  omega
end

