theorem dX12_isMemberCall_0 : decode cX12_isMemberCall 0 = .ok (.aload_n 0, 1) := by decide +kernel
theorem dX12_isMemberCall_1 : decode cX12_isMemberCall 1 = .ok (.iload_n 1, 1) := by decide +kernel
theorem dX12_isMemberCall_2 : decode cX12_isMemberCall 2 = .ok (.iconst 0, 1) := by decide +kernel
theorem dX12_isMemberCall_3 : decode cX12_isMemberCall 3 = .ok (.invokevirtual 644, 3) := by decide +kernel
theorem dX12_isMemberCall_6 : decode cX12_isMemberCall 6 = .ok (.istore_n 2, 1) := by decide +kernel
theorem dX12_isMemberCall_7 : decode cX12_isMemberCall 7 = .ok (.aload_n 0, 1) := by decide +kernel
theorem dX12_isMemberCall_8 : decode cX12_isMemberCall 8 = .ok (.getfield 42, 3) := by decide +kernel
theorem dX12_isMemberCall_11 : decode cX12_isMemberCall 11 = .ok (.iload_n 2, 1) := by decide +kernel
theorem dX12_isMemberCall_12 : decode cX12_isMemberCall 12 = .ok (.iaload, 1) := by decide +kernel
theorem dX12_isMemberCall_13 : decode cX12_isMemberCall 13 = .ok (.bipush 7, 2) := by decide +kernel
theorem dX12_isMemberCall_15 : decode cX12_isMemberCall 15 = .ok (.if_icmp .ne 16, 3) := by decide +kernel
theorem dX12_isMemberCall_18 : decode cX12_isMemberCall 18 = .ok (.aload_n 0, 1) := by decide +kernel
theorem dX12_isMemberCall_19 : decode cX12_isMemberCall 19 = .ok (.getfield 52, 3) := by decide +kernel
theorem dX12_isMemberCall_22 : decode cX12_isMemberCall 22 = .ok (.iload_n 2, 1) := by decide +kernel
theorem dX12_isMemberCall_23 : decode cX12_isMemberCall 23 = .ok (.baload, 1) := by decide +kernel
theorem dX12_isMemberCall_24 : decode cX12_isMemberCall 24 = .ok (.ifCond .ne 7, 3) := by decide +kernel
theorem dX12_isMemberCall_27 : decode cX12_isMemberCall 27 = .ok (.iconst 1, 1) := by decide +kernel
theorem dX12_isMemberCall_28 : decode cX12_isMemberCall 28 = .ok (.goto 4, 3) := by decide +kernel
theorem dX12_isMemberCall_31 : decode cX12_isMemberCall 31 = .ok (.iconst 0, 1) := by decide +kernel
theorem dX12_isMemberCall_32 : decode cX12_isMemberCall 32 = .ok (.ireturn, 1) := by decide +kernel
theorem dX12_leftPart_0 : decode cX12_leftPart 0 = .ok (.aload_n 0, 1) := by decide +kernel
theorem dX12_leftPart_1 : decode cX12_leftPart 1 = .ok (.getfield 42, 3) := by decide +kernel
theorem dX12_leftPart_4 : decode cX12_leftPart 4 = .ok (.iload_n 1, 1) := by decide +kernel
theorem dX12_leftPart_5 : decode cX12_leftPart 5 = .ok (.iaload, 1) := by decide +kernel
theorem dX12_leftPart_6 : decode cX12_leftPart 6 = .ok (.tableswitch 101 3 13 #[58, 101, 101, 101, 58, 72, 101, 101, 65, 58, 58], 58) := by decide +kernel
theorem dX12_leftPart_64 : decode cX12_leftPart 64 = .ok (.aload_n 0, 1) := by decide +kernel
theorem dX12_leftPart_65 : decode cX12_leftPart 65 = .ok (.iload_n 1, 1) := by decide +kernel
theorem dX12_leftPart_66 : decode cX12_leftPart 66 = .ok (.iconst 0, 1) := by decide +kernel
theorem dX12_leftPart_67 : decode cX12_leftPart 67 = .ok (.invokevirtual 644, 3) := by decide +kernel
theorem dX12_leftPart_70 : decode cX12_leftPart 70 = .ok (.ireturn, 1) := by decide +kernel
theorem dX12_leftPart_71 : decode cX12_leftPart 71 = .ok (.aload_n 0, 1) := by decide +kernel
theorem dX12_leftPart_72 : decode cX12_leftPart 72 = .ok (.iload_n 1, 1) := by decide +kernel
theorem dX12_leftPart_73 : decode cX12_leftPart 73 = .ok (.iconst 1, 1) := by decide +kernel
theorem dX12_leftPart_74 : decode cX12_leftPart 74 = .ok (.invokevirtual 644, 3) := by decide +kernel
theorem dX12_leftPart_77 : decode cX12_leftPart 77 = .ok (.ireturn, 1) := by decide +kernel
theorem dX12_leftPart_78 : decode cX12_leftPart 78 = .ok (.aload_n 0, 1) := by decide +kernel
theorem dX12_leftPart_79 : decode cX12_leftPart 79 = .ok (.iload_n 1, 1) := by decide +kernel
theorem dX12_leftPart_80 : decode cX12_leftPart 80 = .ok (.invokevirtual 647, 3) := by decide +kernel
theorem dX12_leftPart_83 : decode cX12_leftPart 83 = .ok (.ifCond .eq 17, 3) := by decide +kernel
theorem dX12_leftPart_86 : decode cX12_leftPart 86 = .ok (.aload_n 0, 1) := by decide +kernel
theorem dX12_leftPart_87 : decode cX12_leftPart 87 = .ok (.aload_n 0, 1) := by decide +kernel
theorem dX12_leftPart_88 : decode cX12_leftPart 88 = .ok (.iload_n 1, 1) := by decide +kernel
theorem dX12_leftPart_89 : decode cX12_leftPart 89 = .ok (.iconst 0, 1) := by decide +kernel
theorem dX12_leftPart_90 : decode cX12_leftPart 90 = .ok (.invokevirtual 644, 3) := by decide +kernel
theorem dX12_leftPart_93 : decode cX12_leftPart 93 = .ok (.iconst 0, 1) := by decide +kernel
theorem dX12_leftPart_94 : decode cX12_leftPart 94 = .ok (.invokevirtual 644, 3) := by decide +kernel
theorem dX12_leftPart_97 : decode cX12_leftPart 97 = .ok (.goto 9, 3) := by decide +kernel
theorem dX12_leftPart_100 : decode cX12_leftPart 100 = .ok (.aload_n 0, 1) := by decide +kernel
theorem dX12_leftPart_101 : decode cX12_leftPart 101 = .ok (.iload_n 1, 1) := by decide +kernel
theorem dX12_leftPart_102 : decode cX12_leftPart 102 = .ok (.iconst 0, 1) := by decide +kernel
theorem dX12_leftPart_103 : decode cX12_leftPart 103 = .ok (.invokevirtual 644, 3) := by decide +kernel
theorem dX12_leftPart_106 : decode cX12_leftPart 106 = .ok (.ireturn, 1) := by decide +kernel
theorem dX12_leftPart_107 : decode cX12_leftPart 107 = .ok (.iconst (-1), 1) := by decide +kernel
theorem dX12_leftPart_108 : decode cX12_leftPart 108 = .ok (.ireturn, 1) := by decide +kernel
/-! AN EXPRESSION'S LEFT PARTS -/
def sm_cmm (so wo ib : Int → Int) (e : Int) : Prop := so (wo (5 * e)) = 7 ∧ ib (wo (5 * e)) = 0
def sm_lfp (so wo ib : Int → Int) (e : Int) : Int :=
  if so e = 3 ∨ so e = 7 ∨ so e = 12 ∨ so e = 13 then wo (5 * e) else if so e = 11 then wo (5 * e + 1) else if so e = 8 then (if so (wo (5 * e)) = 7 ∧ ib (wo (5 * e)) = 0 then wo (5 * wo (5 * e)) else wo (5 * e)) else -1
theorem sm_lfp_a {so wo ib : Int → Int} {e : Int} (h : so e = 3 ∨ so e = 7 ∨ so e = 12 ∨ so e = 13) : sm_lfp so wo ib e = wo (5 * e) := if_pos h
theorem sm_lfp_b {so wo ib : Int → Int} {e : Int} (h : so e = 11) : sm_lfp so wo ib e = wo (5 * e + 1) := by unfold sm_lfp; rw [if_neg (by omega), if_pos h]
theorem sm_lfp_c {so wo ib : Int → Int} {e : Int} (h : so e = 8) (k : so (wo (5 * e)) = 7 ∧ ib (wo (5 * e)) = 0) : sm_lfp so wo ib e = wo (5 * wo (5 * e)) := by unfold sm_lfp; rw [if_neg (by omega), if_neg (by omega), if_pos h, if_pos k]
theorem sm_lfp_d {so wo ib : Int → Int} {e : Int} (h : so e = 8) (k : ¬ (so (wo (5 * e)) = 7 ∧ ib (wo (5 * e)) = 0)) : sm_lfp so wo ib e = wo (5 * e) := by unfold sm_lfp; rw [if_neg (by omega), if_neg (by omega), if_pos h, if_neg k]
theorem sm_lfp_n {so wo ib : Int → Int} {e : Int} (h : ¬ (so e = 3 ∨ so e = 7 ∨ so e = 8 ∨ so e = 11 ∨ so e = 12 ∨ so e = 13)) : sm_lfp so wo ib e = -1 := by unfold sm_lfp; rw [if_neg (by omega), if_neg (by omega), if_neg (by omega)]
theorem sm_lfp_e {so wo ne C M V Lp Ws ib : Int → Int} {N ns mn : Int} {nf : Int → Prop} (h : sm_WF so wo ne C M V Lp Ws N ns mn nf) (e : Int) (h0 : 0 ≤ e) (h1 : e < N) (hc : C e = 1) (hn : ¬ sm_lfp so wo ib e = -1) :
    (so e = 3 ∨ so e = 7 ∨ so e = 8 ∨ so e = 11 ∨ so e = 12 ∨ so e = 13) ∧ 0 ≤ sm_lfp so wo ib e ∧ sm_lfp so wo ib e < e ∧ C (sm_lfp so wo ib e) = 1 ∧ M (sm_lfp so wo ib e) ≤ M e ∧ V (sm_lfp so wo ib e) ≤ V e := by
  by_cases z : so e = 3 ∨ so e = 7 ∨ so e = 8 ∨ so e = 11 ∨ so e = 12 ∨ so e = 13
  · refine ⟨z, ?_⟩
    rcases z with z | z | z | z | z | z
    · rw [sm_lfp_a (by omega)]; have q := sm_g1_3 h e h0 h1 hc z; unfold sm_ex at q; omega
    · rw [sm_lfp_a (by omega)]; have q := sm_g1_7 h e h0 h1 hc z; unfold sm_ex at q; omega
    · have q := sm_g1_8 h e h0 h1 hc z
      have q1 := q.1
      unfold sm_ex at q1
      by_cases k : so (wo (5 * e)) = 7 ∧ ib (wo (5 * e)) = 0
      · rw [sm_lfp_c z k]
        have q2 := sm_g1_7 h _ q1.1 q1.2.1 q1.2.2.1 k.1
        unfold sm_ex at q2
        omega
      · rw [sm_lfp_d z k]; omega
    · rw [sm_lfp_b (by omega)]; have q := sm_g1_11 h e h0 h1 hc z; unfold sm_ex at q; omega
    · rw [sm_lfp_a (by omega)]; have q := sm_g1_12 h e h0 h1 hc z; unfold sm_ex at q; omega
    · rw [sm_lfp_a (by omega)]; have q := sm_g1_13 h e h0 h1 hc z; unfold sm_ex at q; omega
  · exact absurd (sm_lfp_n z) hn
/-- values that lie below a call's function -/
def sm_cd (so wo ib : Int → Int) (e : Int) : Int := if so e = 8 ∧ ¬ (so (wo (5 * e)) = 7 ∧ ib (wo (5 * e)) = 0) then 1 else 0
theorem sm_cd_1 {so wo ib : Int → Int} {e : Int} (h : so e = 8) (k : ¬ (so (wo (5 * e)) = 7 ∧ ib (wo (5 * e)) = 0)) : sm_cd so wo ib e = 1 := if_pos ⟨h, k⟩
theorem sm_cd_0 {so wo ib : Int → Int} {e : Int} (h : ¬ so e = 8) : sm_cd so wo ib e = 0 := if_neg (fun q => h q.1)
theorem sm_cd_m {so wo ib : Int → Int} {e : Int} (k : so (wo (5 * e)) = 7 ∧ ib (wo (5 * e)) = 0) : sm_cd so wo ib e = 0 := if_neg (fun q => q.2 k)
theorem sm_cd_r {so wo ib : Int → Int} {e : Int} : 0 ≤ sm_cd so wo ib e ∧ sm_cd so wo ib e ≤ 1 := by unfold sm_cd; split <;> omega
def sm_nc (lf so wo ib : Int → Int) (lo : Int) : Nat → Int
  | 0 => 0
  | k + 1 => sm_nc lf so wo ib lo k + sm_cd so wo ib (lf (lo + k))
theorem sm_nc_0 {lf so wo ib : Int → Int} {lo : Int} : ∀ k : Nat, 0 ≤ sm_nc lf so wo ib lo k
  | 0 => Int.le_refl _
  | k + 1 => by
    have a := sm_nc_0 (lf := lf) (so := so) (wo := wo) (ib := ib) (lo := lo) k
    have b := sm_cd_r (so := so) (wo := wo) (ib := ib) (e := lf (lo + k))
    unfold sm_nc
    omega
theorem sm_nc_F {lf lf' so wo ib : Int → Int} {lo m : Int} (f : ∀ i : Int, i < m → lf' i = lf i) : ∀ k : Nat, lo + k ≤ m → sm_nc lf' so wo ib lo k = sm_nc lf so wo ib lo k
  | 0, _ => rfl
  | k + 1, h => by
    unfold sm_nc
    rw [sm_nc_F f k (by omega), f _ (by omega)]
/-- the left parts from lo to hi: expressions of these sorts; so many of them calls -/
def sm_LE (lf so wo ib C M V : Int → Int) (lo hi m v c : Int) : Prop := lo ≤ hi ∧ (∀ j : Int, lo ≤ j → j < hi → C (lf j) = 1 ∧ (so (lf j) = 3 ∨ so (lf j) = 7 ∨ so (lf j) = 8 ∨ so (lf j) = 11 ∨ so (lf j) = 12 ∨ so (lf j) = 13) ∧ M (lf j) ≤ m ∧ V (lf j) ≤ v) ∧ c = sm_nc lf so wo ib lo (hi - lo).toNat
theorem sm_LE_0 {lf so wo ib C M V : Int → Int} {lo hi m v c : Int} (h : hi = lo) (hc : c = 0) : sm_LE lf so wo ib C M V lo hi m v c := by
  subst hi
  refine ⟨Int.le_refl _, fun j a b => by omega, ?_⟩
  rw [show (lo - lo).toNat = 0 by omega, hc]
  rfl
theorem sm_LE_c {lf so wo ib C M V : Int → Int} {lo hi m v c : Int} (h : sm_LE lf so wo ib C M V lo hi m v c) : lo ≤ hi ∧ 0 ≤ c ∧ (hi = lo → c = 0) := ⟨h.1, by rw [h.2.2]; exact sm_nc_0 _, fun q => by
  rw [h.2.2, show (hi - lo).toNat = 0 by omega]
  rfl⟩
theorem sm_LE_push {lf so wo ib C M V : Int → Int} {lo hi hi' m v c c' e i2 : Int} (h : sm_LE lf so wo ib C M V lo hi m v c) (h1 : C e = 1) (h2 : so e = 3 ∨ so e = 7 ∨ so e = 8 ∨ so e = 11 ∨ so e = 12 ∨ so e = 13) (h3 : M e ≤ m) (h4 : V e ≤ v) (hi2 : i2 = hi) (hh : hi' = hi + 1) (hc : c' = c + sm_cd so wo ib e) : sm_LE (fun i' : Int => if i' = i2 then e else lf i') so wo ib C M V lo hi' m v c' := by
  subst i2 hi' c'
  obtain ⟨a, b, d⟩ := h
  refine ⟨by omega, fun j j0 j1 => ?_, ?_⟩
  · (try dsimp only)
    by_cases z : j = hi
    · rw [if_pos z]; exact ⟨h1, h2, h3, h4⟩
    · rw [if_neg z]; exact b j j0 (by omega)
  · rw [show (hi + 1 - lo).toNat = (hi - lo).toNat + 1 by omega]
    unfold sm_nc
    rw [sm_nc_F (lf := lf) (m := hi) (fun i q => if_neg (by omega)) _ (by omega), ← d]
    (try dsimp only)
    rw [if_pos (by omega)]
theorem sm_LE_pop {lf so wo ib C M V : Int → Int} {lo hi hi' m v c : Int} (h : sm_LE lf so wo ib C M V lo hi m v c) (hh : hi = hi' + 1) (h0 : lo ≤ hi') : (C (lf hi') = 1 ∧ (so (lf hi') = 3 ∨ so (lf hi') = 7 ∨ so (lf hi') = 8 ∨ so (lf hi') = 11 ∨ so (lf hi') = 12 ∨ so (lf hi') = 13) ∧ M (lf hi') ≤ m ∧ V (lf hi') ≤ v) ∧ sm_LE lf so wo ib C M V lo hi' m v (c - sm_cd so wo ib (lf hi')) := by
  subst hi
  obtain ⟨a, b, d⟩ := h
  refine ⟨b hi' h0 (by omega), h0, fun j j0 j1 => b j j0 (by omega), ?_⟩
  rw [show (hi' + 1 - lo).toNat = (hi' - lo).toNat + 1 by omega] at d
  unfold sm_nc at d
  rw [show lo + ((hi' - lo).toNat : Int) = hi' by omega] at d
  omega
theorem sm_LE_F {lf lf' so wo ib C M V : Int → Int} {lo hi hi' m v c c' x : Int} (h : sm_LE lf so wo ib C M V lo hi m v c) (f : sm_F1 lf lf' x) (hx : hi ≤ x) (hh : hi' = hi) (hc : c' = c) : sm_LE lf' so wo ib C M V lo hi' m v c' := by
  subst hi' c'
  obtain ⟨a, b, d⟩ := h
  refine ⟨a, fun j j0 j1 => ?_, ?_⟩
  · rw [f j (by omega)]; exact b j j0 j1
  · rw [d]; exact (sm_nc_F (fun i q => f i q) _ (by omega)).symm
theorem sm_lfp_m {so wo ne C M V Lp Ws ib : Int → Int} {N ns mn : Int} {nf : Int → Prop} (h : sm_WF so wo ne C M V Lp Ws N ns mn nf) (e : Int) (h0 : 0 ≤ e) (h1 : e < N) (hc : C e = 1) (hn : sm_lfp so wo ib e = -1) : ¬ (so e = 3 ∨ so e = 7 ∨ so e = 8 ∨ so e = 11 ∨ so e = 12 ∨ so e = 13) := fun z => by
  rcases z with z | z | z | z | z | z
  · rw [sm_lfp_a (by omega)] at hn; have q := sm_g1_3 h e h0 h1 hc z; unfold sm_ex at q; omega
  · rw [sm_lfp_a (by omega)] at hn; have q := sm_g1_7 h e h0 h1 hc z; unfold sm_ex at q; omega
  · have q := sm_g1_8 h e h0 h1 hc z
    have q1 := q.1
    unfold sm_ex at q1
    by_cases k : so (wo (5 * e)) = 7 ∧ ib (wo (5 * e)) = 0
    · rw [sm_lfp_c z k] at hn
      have q2 := sm_g1_7 h _ q1.1 q1.2.1 q1.2.2.1 k.1
      unfold sm_ex at q2
      omega
    · rw [sm_lfp_d z k] at hn; omega
  · rw [sm_lfp_b (by omega)] at hn; have q := sm_g1_11 h e h0 h1 hc z; unfold sm_ex at q; omega
  · rw [sm_lfp_a (by omega)] at hn; have q := sm_g1_12 h e h0 h1 hc z; unfold sm_ex at q; omega
  · rw [sm_lfp_a (by omega)] at hn; have q := sm_g1_13 h e h0 h1 hc z; unfold sm_ex at q; omega

def q_isMemberCall (p1 : Int) (S : sv_S) : Option Value → sv_S → Prop := fun v S' => v = some (sv_I (if ((S 11 (S 12 (5 * p1))) = 7 ∧ (S 14 (S 12 (5 * p1))) = 0) then 1 else 0)) ∧ S' = S
theorem la_isMemberCall_0 {x0 : Int} (h0 : 0 ≤ x0) (h1 : x0 < 12000) : 0 ≤ x0 ∧ x0 < 12000 ∧ (0 : Int) ≤ 0 ∧ (0 : Int) ≤ 4 := by omega
theorem la_isMemberCall_1 {x0 : Int} : 5 * x0 + 0 = 5 * x0 := by omega
theorem la_isMemberCall_2 {x0 x1 x2 : Int} (h0 : 0 ≤ x0) (h1 : x1 = x2) (h2 : x1 = x0) : 0 ≤ x2 := by omega
theorem la_isMemberCall_3 {x0 x1 x2 : Int} (h0 : x0 < 12000) (h1 : x1 = x2) (h2 : x1 = x0) : x2 < 12000 := by omega
theorem la_isMemberCall_4 {x0 x1 x2 : Int} (h0 : x0 = x1) (h1 : x0 = x2) : x1 = x2 := by omega
theorem la_isMemberCall_5 {x0 x1 x2 : Int} (h0 : ¬ x0 = 7) (h1 : x0 = x1) : ¬ (x1 = 7 ∧ x2 = 0) := by omega
theorem la_isMemberCall_6 {x0 : Int} (h0 : 0 ≤ x0) (h1 : x0 = 0) : 0 = x0 := by omega
theorem la_isMemberCall_7 {x0 : Int} (h0 : 0 ≤ x0) (h1 : ¬ x0 = 0) : 0 < x0 := by omega
theorem la_isMemberCall_8 {x0 x1 x2 : Int} (h0 : 0 < x0) (h1 : x0 = x1) : ¬ (x2 = 7 ∧ x1 = 0) := by omega
theorem la_isMemberCall_9 {x0 x1 x2 x3 : Int} (h0 : ¬ ¬ x0 = 7) (h1 : 0 ≤ x1) (h2 : ¬ ¬ x1 = 0) (h3 : x1 = x2) (h4 : x0 = x3) : x3 = 7 ∧ x2 = 0 := by omega
theorem la_isMemberCall_10 {x0 : Int} (h0 : x0 ≤ 1) (h1 : x0 = 1) : 1 = x0 := by omega
set_option maxHeartbeats 2000000 in
theorem f_isMemberCall : ∀ (p1 : Int) (S : sv_S), sm_ok S → sv_R p1 → (0 ≤ p1 ∧ p1 < 12000 ∧ 0 ≤ (S 12 (5 * p1)) ∧ (S 12 (5 * p1)) < 12000) → (0 ≤ p1 ∧ p1 < 12000 ∧ 0 ≤ (0 : Int) ∧ (0 : Int) ≤ 4) ∧ (∀ x2 : Int, ((S 12 (5 * p1 + (0 : Int)))) = x2 → (0 ≤ x2 ∧ x2 < 12000) ∧ (sv_R (S 11 x2) → (((¬ (S 11 x2) = (7 : Int)) → (0 : Int) = (if ((S 11 (S 12 (5 * p1))) = 7 ∧ (S 14 (S 12 (5 * p1))) = 0) then 1 else 0)) ∧ ((¬ (¬ (S 11 x2) = (7 : Int))) → ((0 ≤ (S 14 x2) ∧ (S 14 x2) ≤ 1) → (((¬ (S 14 x2) = (0 : Int)) → (0 : Int) = (if ((S 11 (S 12 (5 * p1))) = 7 ∧ (S 14 (S 12 (5 * p1))) = 0) then 1 else 0)) ∧ ((¬ (¬ (S 14 x2) = (0 : Int))) → (1 : Int) = (if ((S 11 (S 12 (5 * p1))) = 7 ∧ (S 14 (S 12 (5 * p1))) = 0) then 1 else 0)))))))) := by
  intro p1
  intro S
  intro h1_
  intro h2_
  rintro ⟨h3_, ⟨h4_, ⟨h5_, h6_⟩⟩⟩
  refine ⟨(la_isMemberCall_0 h3_ h4_), ?_⟩
  intro x2
  intro h7_
  refine ⟨?_, ?_⟩
  · skip
    refine ⟨?_, ?_⟩
    · skip
      have e8_ : S 12 (5 * p1 + 0) = S 12 (5 * p1) := congrArg ((S 12)) la_isMemberCall_1
      exact (la_isMemberCall_2 h5_ h7_ e8_)
    have e9_ : S 12 (5 * p1 + 0) = S 12 (5 * p1) := congrArg ((S 12)) la_isMemberCall_1
    exact (la_isMemberCall_3 h6_ h7_ e9_)
  intro h10_
  refine ⟨?_, ?_⟩
  · skip
    intro h11_
    have e12_ : S 12 (5 * p1 + 0) = S 12 (5 * p1) := congrArg ((S 12)) la_isMemberCall_1
    have e13_ : S 11 x2 = S 11 (S 12 (5 * p1)) := congrArg ((S 11)) (la_isMemberCall_4 h7_ e12_)
    have e14_ : (if S 11 (S 12 (5 * p1)) = 7 ∧ S 14 (S 12 (5 * p1)) = 0 then 1 else 0 : Int) = 0 := if_neg (la_isMemberCall_5 h11_ e13_)
    exact (la_isMemberCall_6 (sv_i01 (p := S 11 (S 12 (5 * p1)) = 7 ∧ S 14 (S 12 (5 * p1)) = 0)).1 e14_)
  intro h15_
  rintro ⟨h16_, h17_⟩
  refine ⟨?_, ?_⟩
  · skip
    intro h18_
    have e19_ : S 12 (5 * p1 + 0) = S 12 (5 * p1) := congrArg ((S 12)) la_isMemberCall_1
    have e20_ : S 14 x2 = S 14 (S 12 (5 * p1)) := congrArg ((S 14)) (la_isMemberCall_4 h7_ e19_)
    have e21_ : (if S 11 (S 12 (5 * p1)) = 7 ∧ S 14 (S 12 (5 * p1)) = 0 then 1 else 0 : Int) = 0 := if_neg (la_isMemberCall_8 (la_isMemberCall_7 h16_ h18_) e20_)
    exact (la_isMemberCall_6 (sv_i01 (p := S 11 (S 12 (5 * p1)) = 7 ∧ S 14 (S 12 (5 * p1)) = 0)).1 e21_)
  intro h22_
  have e23_ : S 12 (5 * p1 + 0) = S 12 (5 * p1) := congrArg ((S 12)) la_isMemberCall_1
  have e24_ : S 14 x2 = S 14 (S 12 (5 * p1)) := congrArg ((S 14)) (la_isMemberCall_4 h7_ e23_)
  have e25_ : S 11 x2 = S 11 (S 12 (5 * p1)) := congrArg ((S 11)) (la_isMemberCall_4 h7_ e23_)
  have e26_ : (if S 11 (S 12 (5 * p1)) = 7 ∧ S 14 (S 12 (5 * p1)) = 0 then 1 else 0 : Int) = 1 := if_pos (la_isMemberCall_9 h15_ h16_ h22_ e24_ e25_)
  exact (la_isMemberCall_10 (sv_i01 (p := S 11 (S 12 (5 * p1)) = 7 ∧ S 14 (S 12 (5 * p1)) = 0)).2 e26_)
set_option maxRecDepth 8000 in
set_option maxHeartbeats 2000000 in
theorem t_isMemberCall : ∀ (p1 : Int) (S : sv_S), sm_ok S → sv_R p1 → (0 ≤ p1 ∧ p1 < 12000 ∧ 0 ≤ (S 12 (5 * p1)) ∧ (S 12 (5 * p1)) < 12000) → sv_T sm_XS sm_cs sm_L sm_sh 1 (q_isMemberCall p1 S) 95 0 (lv_args 0 [.ref 0, sv_I p1]) [] S := by
  intro p1 S hok hp1 hpre
  have h := f_isMemberCall p1 S hok hp1 hpre
  have hM := sm_h95
  show sv_T sm_XS sm_cs sm_L sm_sh 1 (q_isMemberCall p1 S) 95 0 [(0, .ref 0), (1, sv_I p1)] [] S
  refine sv_aload_n hM dX12_isMemberCall_0 rfl rfl ?_
  refine sv_iload_n hM dX12_isMemberCall_1 rfl rfl ?_
  refine sv_iconst (d := (0 : Int)) hM dX12_isMemberCall_2 rfl rfl ?_
  obtain ⟨o1, h⟩ := h
  refine sv_callV hM dX12_isMemberCall_3 sm_iv_644 (by decide) (sm_a0 _) rfl rfl (Nat.le_of_ble_eq_true rfl) sm_h34 (Nat.le_of_ble_eq_true rfl) (Nat.le_of_ble_eq_true rfl) (F' := 0) (Nat.le_of_ble_eq_true rfl) rfl (t_part p1 (0 : Int) S hok hp1 (⟨by decide, by decide⟩ : sv_R (0 : Int)) o1) (fun v S1 hq => ?_)
  obtain ⟨rfl, hS1⟩ := hq
  obtain rfl : S = S1 := hS1.symm
  show sv_T sm_XS sm_cs sm_L sm_sh 1 (q_isMemberCall p1 S) 95 6 [(0, .ref 0), (1, sv_I p1)] [sv_I ((S 12 (5 * p1 + (0 : Int))))] S
  obtain ⟨x2, e3⟩ : ∃ x : Int, ((S 12 (5 * p1 + (0 : Int)))) = x := ⟨_, rfl⟩
  have h := h x2 e3
  have e3r : sv_R x2 := e3 ▸ (sm_okI hok sm_r12 _)
  refine sv_nameI e3 ?_
  refine sv_istore_n hM dX12_isMemberCall_6 (by decide) rfl ?_
  show sv_T sm_XS sm_cs sm_L sm_sh 1 (q_isMemberCall p1 S) 95 7 [(0, .ref 0), (1, sv_I p1), (2, sv_I x2)] [] S
  refine sv_aload_n hM dX12_isMemberCall_7 rfl rfl ?_
  refine sv_getA hM dX12_isMemberCall_8 sm_fl_42 (sm_a0 _) sm_k25 rfl ?_
  refine sv_iload_n hM dX12_isMemberCall_11 rfl rfl ?_
  obtain ⟨o4, h⟩ := h
  have k5 : sv_R (S 11 x2) := sm_okI hok sm_r11 x2
  have h := h k5
  refine sv_iald hM dX12_isMemberCall_12 (sm_a11 _) (by decide) o4.1 o4.2 rfl (x := (S 11 x2)) rfl ?_
  refine sv_bipush (d := (7 : Int)) hM dX12_isMemberCall_13 rfl rfl ?_
  refine sv_icmp_ne hM dX12_isMemberCall_15 k5 (⟨by decide, by decide⟩ : sv_R (7 : Int)) (t := 31) rfl rfl (fun hc => ?_) (fun hc => ?_)
  · have h := h.1 (hc)
    refine sv_iconst (d := (0 : Int)) hM dX12_isMemberCall_31 rfl rfl ?_
    exact sv_iret hM dX12_isMemberCall_32 rfl (sv_nz (⟨by decide, by decide⟩ : 0 ≤ (0 : Int) ∧ (0 : Int) ≤ 1)) ⟨congrArg (fun z => some (sv_I z)) h, rfl⟩
  · have h := h.2 (hc)
    refine sv_aload_n hM dX12_isMemberCall_18 rfl rfl ?_
    refine sv_getA hM dX12_isMemberCall_19 sm_fl_52 (sm_a0 _) sm_k28 rfl ?_
    refine sv_iload_n hM dX12_isMemberCall_22 rfl rfl ?_
    have k6 : (0 ≤ (S 14 x2) ∧ (S 14 x2) ≤ 1) := sm_okZ hok sm_r14 x2
    have h := h k6
    refine sv_zald hM dX12_isMemberCall_23 (sm_a14 _) (by decide) o4.1 o4.2 rfl (x := (S 14 x2)) rfl ?_
    refine sv_cond_ne hM dX12_isMemberCall_24 (sv_R01 k6) (t := 31) rfl rfl (fun hc => ?_) (fun hc => ?_)
    · have h := h.1 (hc)
      refine sv_iconst (d := (0 : Int)) hM dX12_isMemberCall_31 rfl rfl ?_
      exact sv_iret hM dX12_isMemberCall_32 rfl (sv_nz (⟨by decide, by decide⟩ : 0 ≤ (0 : Int) ∧ (0 : Int) ≤ 1)) ⟨congrArg (fun z => some (sv_I z)) h, rfl⟩
    · have h := h.2 (hc)
      refine sv_iconst (d := (1 : Int)) hM dX12_isMemberCall_27 rfl rfl ?_
      refine sv_goto hM dX12_isMemberCall_28 (pc' := 32) rfl ?_
      exact sv_iret hM dX12_isMemberCall_32 rfl (sv_nz (⟨by decide, by decide⟩ : 0 ≤ (1 : Int) ∧ (1 : Int) ≤ 1)) ⟨congrArg (fun z => some (sv_I z)) h, rfl⟩
def q_leftPart (p1 : Int) (S : sv_S) : Option Value → sv_S → Prop := fun v S' => v = some (sv_I (sm_lfp (S 11) (S 12) (S 14) (p1))) ∧ S' = S
theorem la_leftPart_0 {x0 : Int} (h0 : 0 ≤ x0) (h1 : x0 < 12000) : 0 ≤ x0 ∧ x0 < 12000 := by omega
theorem la_leftPart_1 {x0 x1 : Int} (h0 : x0 < 3 ∨ 13 < x0 ∨ x0 = 4 ∨ x0 = 5 ∨ x0 = 6 ∨ x0 = 9 ∨ x0 = 10) (h1 : ¬ (x0 = 3 ∨ x0 = 7 ∨ x0 = 8 ∨ x0 = 11 ∨ x0 = 12 ∨ x0 = 13) → x1 = (-1)) : (-1) = x1 := by omega
theorem la_leftPart_2 {x0 : Int} (h0 : 0 ≤ x0) (h1 : x0 < 12000) : 0 ≤ x0 ∧ x0 < 12000 ∧ (0 : Int) ≤ 0 ∧ (0 : Int) ≤ 4 := by omega
theorem la_leftPart_3 {x0 : Int} : 5 * x0 + 0 = 5 * x0 := by omega
theorem la_leftPart_4 {x0 x1 x2 : Int} (h0 : x0 = x1) (h1 : x2 = x1) : x2 = x0 := by omega
theorem la_leftPart_5 {x0 x1 x2 x3 : Int} (h0 : 0 ≤ x0) (h1 : x0 < 12000) : x1 = 11 → (x1 = 11 → x2 = x3) → (0 ≤ x0 ∧ x0 < 12000 ∧ (0 : Int) ≤ 1 ∧ (1 : Int) ≤ 4) ∧ x3 = x2 := by omega
theorem la_leftPart_6 {x0 x1 : Int} (h0 : 0 ≤ x0) (h1 : x0 < 12000) (h2 : 0 ≤ x1) (h3 : x1 < 12000) : 0 ≤ x0 ∧ x0 < 12000 ∧ 0 ≤ x1 ∧ x1 < 12000 := by omega
theorem la_leftPart_7 {x0 x1 : Int} (h0 : x0 = 7) (h1 : x1 = 0) : x0 = 7 ∧ x1 = 0 := by omega
theorem la_leftPart_8 {x0 x1 : Int} (h0 : 0 ≤ x0) (h1 : x1 = x0) : 0 ≤ x1 := by omega
theorem la_leftPart_9 {x0 x1 : Int} (h0 : x0 < 12000) (h1 : x1 = x0) : x1 < 12000 := by omega
theorem la_leftPart_10 : (0 : Int) ≤ 0 := by omega
theorem la_leftPart_11 : (0 : Int) ≤ 4 := by omega
theorem la_leftPart_12 {x0 x1 : Int} (h0 : x0 = x1) : 5 * x0 + 0 = 5 * x1 := by omega
set_option maxHeartbeats 2000000 in
theorem f_leftPart : ∀ (p1 : Int) (S : sv_S), sm_ok S → sv_R p1 → (0 ≤ p1 ∧ p1 < 12000 ∧ ((S 11 p1) = 8 → 0 ≤ (S 12 (5 * p1)) ∧ (S 12 (5 * p1)) < 12000)) → (0 ≤ p1 ∧ p1 < 12000) ∧ (sv_R (S 11 p1) → ((((S 11 p1) < (3 : Int) ∨ (13 : Int) < (S 11 p1) ∨ (S 11 p1) = (4 : Int) ∨ (S 11 p1) = (5 : Int) ∨ (S 11 p1) = (6 : Int) ∨ (S 11 p1) = (9 : Int) ∨ (S 11 p1) = (10 : Int)) → ((¬ ((S 11 p1) = 3 ∨ (S 11 p1) = 7 ∨ (S 11 p1) = 8 ∨ (S 11 p1) = 11 ∨ (S 11 p1) = 12 ∨ (S 11 p1) = 13) → sm_lfp (S 11) (S 12) (S 14) (p1) = -1) → (-1 : Int) = (sm_lfp (S 11) (S 12) (S 14) (p1)))) ∧ (((S 11 p1) = (3 : Int) ∨ (S 11 p1) = (7 : Int) ∨ (S 11 p1) = (12 : Int) ∨ (S 11 p1) = (13 : Int)) → ((((S 11 p1) = 3 ∨ (S 11 p1) = 7 ∨ (S 11 p1) = 12 ∨ (S 11 p1) = 13) → sm_lfp (S 11) (S 12) (S 14) (p1) = (S 12 (5 * p1))) → (0 ≤ p1 ∧ p1 < 12000 ∧ 0 ≤ (0 : Int) ∧ (0 : Int) ≤ 4) ∧ ((S 12 (5 * p1 + (0 : Int)))) = (sm_lfp (S 11) (S 12) (S 14) (p1)))) ∧ (((S 11 p1) = (11 : Int)) → (((S 11 p1) = 11 → sm_lfp (S 11) (S 12) (S 14) (p1) = (S 12 (5 * p1 + 1))) → (0 ≤ p1 ∧ p1 < 12000 ∧ 0 ≤ (1 : Int) ∧ (1 : Int) ≤ 4) ∧ ((S 12 (5 * p1 + (1 : Int)))) = (sm_lfp (S 11) (S 12) (S 14) (p1)))) ∧ (((S 11 p1) = (8 : Int)) → (0 ≤ p1 ∧ p1 < 12000 ∧ 0 ≤ (S 12 (5 * p1)) ∧ (S 12 (5 * p1)) < 12000) ∧ (((¬ (((S 11 (S 12 (5 * p1))) = 7 ∧ (S 14 (S 12 (5 * p1))) = 0))) → (((S 11 p1) = 8 → ¬ ((S 11 (S 12 (5 * p1))) = 7 ∧ (S 14 (S 12 (5 * p1))) = 0) → sm_lfp (S 11) (S 12) (S 14) (p1) = (S 12 (5 * p1))) → (0 ≤ p1 ∧ p1 < 12000 ∧ 0 ≤ (0 : Int) ∧ (0 : Int) ≤ 4) ∧ ((S 12 (5 * p1 + (0 : Int)))) = (sm_lfp (S 11) (S 12) (S 14) (p1)))) ∧ ((((S 11 (S 12 (5 * p1))) = 7 ∧ (S 14 (S 12 (5 * p1))) = 0)) → (((S 11 p1) = 8 → ((S 11 (S 12 (5 * p1))) = 7 ∧ (S 14 (S 12 (5 * p1))) = 0) → sm_lfp (S 11) (S 12) (S 14) (p1) = (S 12 (5 * (S 12 (5 * p1))))) → (0 ≤ p1 ∧ p1 < 12000 ∧ 0 ≤ (0 : Int) ∧ (0 : Int) ≤ 4) ∧ (0 ≤ ((S 12 (5 * p1 + (0 : Int)))) ∧ ((S 12 (5 * p1 + (0 : Int)))) < 12000 ∧ 0 ≤ (0 : Int) ∧ (0 : Int) ≤ 4) ∧ ((S 12 (5 * ((S 12 (5 * p1 + (0 : Int)))) + (0 : Int)))) = (sm_lfp (S 11) (S 12) (S 14) (p1)))))))) := by
  intro p1
  intro S
  intro h1_
  intro h2_
  rintro ⟨h3_, ⟨h4_, h5_⟩⟩
  refine ⟨(la_leftPart_0 h3_ h4_), ?_⟩
  intro h6_
  refine ⟨?_, ?_⟩
  · skip
    intro h7_
    intro h8_
    exact (la_leftPart_1 h7_ h8_)
  refine ⟨?_, ?_⟩
  · skip
    intro h9_
    intro h10_
    have h11_ := (h10_ h9_)
    refine ⟨(la_leftPart_2 h3_ h4_), ?_⟩
    have e12_ : S 12 (5 * p1 + 0) = S 12 (5 * p1) := congrArg ((S 12)) la_leftPart_3
    exact (la_leftPart_4 h11_ e12_)
  refine ⟨(la_leftPart_5 h3_ h4_), ?_⟩
  intro h13_
  obtain ⟨h14_, h15_⟩ := (h5_ h13_)
  refine ⟨(la_leftPart_6 h3_ h4_ h14_ h15_), ?_⟩
  refine ⟨?_, ?_⟩
  · skip
    intro h16_
    intro h17_
    have h18_ := (h17_ h13_)
    have h19_ := (h18_ h16_)
    refine ⟨(la_leftPart_2 h3_ h4_), ?_⟩
    have e20_ : S 12 (5 * p1 + 0) = S 12 (5 * p1) := congrArg ((S 12)) la_leftPart_3
    exact (la_leftPart_4 h19_ e20_)
  rintro ⟨h21_, h22_⟩
  intro h23_
  have h24_ := (h23_ h13_)
  have h25_ := (h24_ (la_leftPart_7 h21_ h22_))
  refine ⟨(la_leftPart_2 h3_ h4_), ?_⟩
  refine ⟨?_, ?_⟩
  · skip
    refine ⟨?_, ?_⟩
    · skip
      have e26_ : S 12 (5 * p1 + 0) = S 12 (5 * p1) := congrArg ((S 12)) la_leftPart_3
      exact (la_leftPart_8 h14_ e26_)
    refine ⟨?_, ?_⟩
    · skip
      have e27_ : S 12 (5 * p1 + 0) = S 12 (5 * p1) := congrArg ((S 12)) la_leftPart_3
      exact (la_leftPart_9 h15_ e27_)
    refine ⟨la_leftPart_10, ?_⟩
    exact la_leftPart_11
  have e28_ : S 12 (5 * p1 + 0) = S 12 (5 * p1) := congrArg ((S 12)) la_leftPart_3
  have e29_ : S 12 (5 * S 12 (5 * p1 + 0) + 0) = S 12 (5 * S 12 (5 * p1)) := congrArg ((S 12)) (la_leftPart_12 e28_)
  exact (la_leftPart_4 h25_ e29_)
set_option maxRecDepth 8000 in
set_option maxHeartbeats 2000000 in
theorem t_leftPart : ∀ (p1 : Int) (S : sv_S), sm_ok S → sv_R p1 → (0 ≤ p1 ∧ p1 < 12000 ∧ ((S 11 p1) = 8 → 0 ≤ (S 12 (5 * p1)) ∧ (S 12 (5 * p1)) < 12000)) → sv_T sm_XS sm_cs sm_L sm_sh 2 (q_leftPart p1 S) 94 0 (lv_args 0 [.ref 0, sv_I p1]) [] S := by
  intro p1 S hok hp1 hpre
  have h := f_leftPart p1 S hok hp1 hpre
  have hM := sm_h94
  show sv_T sm_XS sm_cs sm_L sm_sh 2 (q_leftPart p1 S) 94 0 [(0, .ref 0), (1, sv_I p1)] [] S
  refine sv_aload_n hM dX12_leftPart_0 rfl rfl ?_
  refine sv_getA hM dX12_leftPart_1 sm_fl_42 (sm_a0 _) sm_k25 rfl ?_
  refine sv_iload_n hM dX12_leftPart_4 rfl rfl ?_
  obtain ⟨o1, h⟩ := h
  have k2 : sv_R (S 11 p1) := sm_okI hok sm_r11 p1
  have h := h k2
  refine sv_iald hM dX12_leftPart_5 (sm_a11 _) (by decide) o1.1 o1.2 rfl (x := (S 11 p1)) rfl ?_
  have hS := h
  have J0 : ((S 11 p1) < (3 : Int) ∨ (13 : Int) < (S 11 p1) ∨ (S 11 p1) = (4 : Int) ∨ (S 11 p1) = (5 : Int) ∨ (S 11 p1) = (6 : Int) ∨ (S 11 p1) = (9 : Int) ∨ (S 11 p1) = (10 : Int)) → sv_T sm_XS sm_cs sm_L sm_sh 2 (q_leftPart p1 S) 94 107 [(0, .ref 0), (1, sv_I p1)] [] S := by
    intro hc
    have h := hS.1 hc
    have k3 : (¬ ((S 11 p1) = 3 ∨ (S 11 p1) = 7 ∨ (S 11 p1) = 8 ∨ (S 11 p1) = 11 ∨ (S 11 p1) = 12 ∨ (S 11 p1) = 13) → sm_lfp (S 11) (S 12) (S 14) (p1) = -1) := sm_lfp_n
    have h := h k3
    refine sv_iconst (d := (-1 : Int)) hM dX12_leftPart_107 rfl rfl ?_
    exact sv_iret hM dX12_leftPart_108 rfl rfl ⟨congrArg (fun z => some (sv_I z)) h, rfl⟩
  have J1 : ((S 11 p1) = (3 : Int) ∨ (S 11 p1) = (7 : Int) ∨ (S 11 p1) = (12 : Int) ∨ (S 11 p1) = (13 : Int)) → sv_T sm_XS sm_cs sm_L sm_sh 2 (q_leftPart p1 S) 94 64 [(0, .ref 0), (1, sv_I p1)] [] S := by
    intro hc
    have h := hS.2.1 hc
    have k4 : (((S 11 p1) = 3 ∨ (S 11 p1) = 7 ∨ (S 11 p1) = 12 ∨ (S 11 p1) = 13) → sm_lfp (S 11) (S 12) (S 14) (p1) = (S 12 (5 * p1))) := sm_lfp_a
    have h := h k4
    refine sv_aload_n hM dX12_leftPart_64 rfl rfl ?_
    refine sv_iload_n hM dX12_leftPart_65 rfl rfl ?_
    refine sv_iconst (d := (0 : Int)) hM dX12_leftPart_66 rfl rfl ?_
    obtain ⟨o5, h⟩ := h
    refine sv_callV hM dX12_leftPart_67 sm_iv_644 (by decide) (sm_a0 _) rfl rfl (Nat.le_of_ble_eq_true rfl) sm_h34 (Nat.le_of_ble_eq_true rfl) (Nat.le_of_ble_eq_true rfl) (F' := 0) (Nat.le_of_ble_eq_true rfl) rfl (t_part p1 (0 : Int) S hok hp1 (⟨by decide, by decide⟩ : sv_R (0 : Int)) o5) (fun v S1 hq => ?_)
    obtain ⟨rfl, hS1⟩ := hq
    obtain rfl : S = S1 := hS1.symm
    show sv_T sm_XS sm_cs sm_L sm_sh 2 (q_leftPart p1 S) 94 70 [(0, .ref 0), (1, sv_I p1)] [sv_I ((S 12 (5 * p1 + (0 : Int))))] S
    exact sv_iret hM dX12_leftPart_70 rfl rfl ⟨congrArg (fun z => some (sv_I z)) h, rfl⟩
  have J2 : ((S 11 p1) = (11 : Int)) → sv_T sm_XS sm_cs sm_L sm_sh 2 (q_leftPart p1 S) 94 71 [(0, .ref 0), (1, sv_I p1)] [] S := by
    intro hc
    have h := hS.2.2.1 hc
    have k6 : ((S 11 p1) = 11 → sm_lfp (S 11) (S 12) (S 14) (p1) = (S 12 (5 * p1 + 1))) := sm_lfp_b
    have h := h k6
    refine sv_aload_n hM dX12_leftPart_71 rfl rfl ?_
    refine sv_iload_n hM dX12_leftPart_72 rfl rfl ?_
    refine sv_iconst (d := (1 : Int)) hM dX12_leftPart_73 rfl rfl ?_
    obtain ⟨o7, h⟩ := h
    refine sv_callV hM dX12_leftPart_74 sm_iv_644 (by decide) (sm_a0 _) rfl rfl (Nat.le_of_ble_eq_true rfl) sm_h34 (Nat.le_of_ble_eq_true rfl) (Nat.le_of_ble_eq_true rfl) (F' := 0) (Nat.le_of_ble_eq_true rfl) rfl (t_part p1 (1 : Int) S hok hp1 (⟨by decide, by decide⟩ : sv_R (1 : Int)) o7) (fun v S1 hq => ?_)
    obtain ⟨rfl, hS1⟩ := hq
    obtain rfl : S = S1 := hS1.symm
    show sv_T sm_XS sm_cs sm_L sm_sh 2 (q_leftPart p1 S) 94 77 [(0, .ref 0), (1, sv_I p1)] [sv_I ((S 12 (5 * p1 + (1 : Int))))] S
    exact sv_iret hM dX12_leftPart_77 rfl rfl ⟨congrArg (fun z => some (sv_I z)) h, rfl⟩
  have J3 : ((S 11 p1) = (8 : Int)) → sv_T sm_XS sm_cs sm_L sm_sh 2 (q_leftPart p1 S) 94 78 [(0, .ref 0), (1, sv_I p1)] [] S := by
    intro hc
    have h := hS.2.2.2 hc
    refine sv_aload_n hM dX12_leftPart_78 rfl rfl ?_
    refine sv_iload_n hM dX12_leftPart_79 rfl rfl ?_
    obtain ⟨o8, h⟩ := h
    refine sv_callV hM dX12_leftPart_80 sm_iv_647 (by decide) (sm_a0 _) rfl rfl (Nat.le_of_ble_eq_true rfl) sm_h95 (Nat.le_of_ble_eq_true rfl) (Nat.le_of_ble_eq_true rfl) (F' := 1) (Nat.le_of_ble_eq_true rfl) rfl (t_isMemberCall p1 S hok hp1 o8) (fun v S1 hq => ?_)
    obtain ⟨rfl, hS1⟩ := hq
    obtain rfl : S = S1 := hS1.symm
    show sv_T sm_XS sm_cs sm_L sm_sh 2 (q_leftPart p1 S) 94 83 [(0, .ref 0), (1, sv_I p1)] [sv_I (if ((S 11 (S 12 (5 * p1))) = 7 ∧ (S 14 (S 12 (5 * p1))) = 0) then 1 else 0)] S
    refine sv_cond_eq hM dX12_leftPart_83 (sv_Rite : sv_R (if ((S 11 (S 12 (5 * p1))) = 7 ∧ (S 14 (S 12 (5 * p1))) = 0) then 1 else 0)) (t := 100) rfl rfl (fun hc => ?_) (fun hc => ?_)
    · have h := h.1 (sv_iten hc)
      have k9 : ((S 11 p1) = 8 → ¬ ((S 11 (S 12 (5 * p1))) = 7 ∧ (S 14 (S 12 (5 * p1))) = 0) → sm_lfp (S 11) (S 12) (S 14) (p1) = (S 12 (5 * p1))) := sm_lfp_d
      have h := h k9
      refine sv_aload_n hM dX12_leftPart_100 rfl rfl ?_
      refine sv_iload_n hM dX12_leftPart_101 rfl rfl ?_
      refine sv_iconst (d := (0 : Int)) hM dX12_leftPart_102 rfl rfl ?_
      obtain ⟨o10, h⟩ := h
      refine sv_callV hM dX12_leftPart_103 sm_iv_644 (by decide) (sm_a0 _) rfl rfl (Nat.le_of_ble_eq_true rfl) sm_h34 (Nat.le_of_ble_eq_true rfl) (Nat.le_of_ble_eq_true rfl) (F' := 0) (Nat.le_of_ble_eq_true rfl) rfl (t_part p1 (0 : Int) S hok hp1 (⟨by decide, by decide⟩ : sv_R (0 : Int)) o10) (fun v S1 hq => ?_)
      obtain ⟨rfl, hS1⟩ := hq
      obtain rfl : S = S1 := hS1.symm
      show sv_T sm_XS sm_cs sm_L sm_sh 2 (q_leftPart p1 S) 94 106 [(0, .ref 0), (1, sv_I p1)] [sv_I ((S 12 (5 * p1 + (0 : Int))))] S
      exact sv_iret hM dX12_leftPart_106 rfl rfl ⟨congrArg (fun z => some (sv_I z)) h, rfl⟩
    · have h := h.2 (sv_itep hc)
      have k11 : ((S 11 p1) = 8 → ((S 11 (S 12 (5 * p1))) = 7 ∧ (S 14 (S 12 (5 * p1))) = 0) → sm_lfp (S 11) (S 12) (S 14) (p1) = (S 12 (5 * (S 12 (5 * p1))))) := sm_lfp_c
      have h := h k11
      refine sv_aload_n hM dX12_leftPart_86 rfl rfl ?_
      refine sv_aload_n hM dX12_leftPart_87 rfl rfl ?_
      refine sv_iload_n hM dX12_leftPart_88 rfl rfl ?_
      refine sv_iconst (d := (0 : Int)) hM dX12_leftPart_89 rfl rfl ?_
      obtain ⟨o12, h⟩ := h
      refine sv_callV hM dX12_leftPart_90 sm_iv_644 (by decide) (sm_a0 _) rfl rfl (Nat.le_of_ble_eq_true rfl) sm_h34 (Nat.le_of_ble_eq_true rfl) (Nat.le_of_ble_eq_true rfl) (F' := 0) (Nat.le_of_ble_eq_true rfl) rfl (t_part p1 (0 : Int) S hok hp1 (⟨by decide, by decide⟩ : sv_R (0 : Int)) o12) (fun v S1 hq => ?_)
      obtain ⟨rfl, hS1⟩ := hq
      obtain rfl : S = S1 := hS1.symm
      show sv_T sm_XS sm_cs sm_L sm_sh 2 (q_leftPart p1 S) 94 93 [(0, .ref 0), (1, sv_I p1)] [sv_I ((S 12 (5 * p1 + (0 : Int)))), .ref 0] S
      refine sv_iconst (d := (0 : Int)) hM dX12_leftPart_93 rfl rfl ?_
      obtain ⟨o13, h⟩ := h
      refine sv_callV hM dX12_leftPart_94 sm_iv_644 (by decide) (sm_a0 _) rfl rfl (Nat.le_of_ble_eq_true rfl) sm_h34 (Nat.le_of_ble_eq_true rfl) (Nat.le_of_ble_eq_true rfl) (F' := 0) (Nat.le_of_ble_eq_true rfl) rfl (t_part ((S 12 (5 * p1 + (0 : Int)))) (0 : Int) S hok (sm_okI hok sm_r12 _) (⟨by decide, by decide⟩ : sv_R (0 : Int)) o13) (fun v S1 hq => ?_)
      obtain ⟨rfl, hS1⟩ := hq
      obtain rfl : S = S1 := hS1.symm
      show sv_T sm_XS sm_cs sm_L sm_sh 2 (q_leftPart p1 S) 94 97 [(0, .ref 0), (1, sv_I p1)] [sv_I ((S 12 (5 * ((S 12 (5 * p1 + (0 : Int)))) + (0 : Int))))] S
      refine sv_goto hM dX12_leftPart_97 (pc' := 106) rfl ?_
      exact sv_iret hM dX12_leftPart_106 rfl rfl ⟨congrArg (fun z => some (sv_I z)) h, rfl⟩
  refine sv_tsw hM dX12_leftPart_6 k2 (t := 107) rfl (fun hc => J0 (by rcases hc with hc | hc; exact Or.inl hc; exact Or.inr (Or.inl hc))) (fun hc => ?_)
  have hv : (S 11 p1) = (3 : Int) ∨ (S 11 p1) = (4 : Int) ∨ (S 11 p1) = (5 : Int) ∨ (S 11 p1) = (6 : Int) ∨ (S 11 p1) = (7 : Int) ∨ (S 11 p1) = (8 : Int) ∨ (S 11 p1) = (9 : Int) ∨ (S 11 p1) = (10 : Int) ∨ (S 11 p1) = (11 : Int) ∨ (S 11 p1) = (12 : Int) ∨ (S 11 p1) = (13 : Int) := by omega
  rcases hv with hv | hv | hv | hv | hv | hv | hv | hv | hv | hv | hv
  · exact ⟨58, 64, by rw [hv]; rfl, rfl, J1 (by omega)⟩
  · exact ⟨101, 107, by rw [hv]; rfl, rfl, J0 (by omega)⟩
  · exact ⟨101, 107, by rw [hv]; rfl, rfl, J0 (by omega)⟩
  · exact ⟨101, 107, by rw [hv]; rfl, rfl, J0 (by omega)⟩
  · exact ⟨58, 64, by rw [hv]; rfl, rfl, J1 (by omega)⟩
  · exact ⟨72, 78, by rw [hv]; rfl, rfl, J3 (by omega)⟩
  · exact ⟨101, 107, by rw [hv]; rfl, rfl, J0 (by omega)⟩
  · exact ⟨101, 107, by rw [hv]; rfl, rfl, J0 (by omega)⟩
  · exact ⟨65, 71, by rw [hv]; rfl, rfl, J2 (by omega)⟩
  · exact ⟨58, 64, by rw [hv]; rfl, rfl, J1 (by omega)⟩
  · exact ⟨58, 64, by rw [hv]; rfl, rfl, J1 (by omega)⟩
