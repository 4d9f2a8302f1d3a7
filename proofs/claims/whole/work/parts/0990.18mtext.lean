theorem dX12_give__0 : decode cX12_give_ 0 = .ok (.aload_n 0, 1) := by decide +kernel
theorem dX12_give__1 : decode cX12_give_ 1 = .ok (.iload_n 1, 1) := by decide +kernel
theorem dX12_give__2 : decode cX12_give_ 2 = .ok (.putfield 788, 3) := by decide +kernel
theorem dX12_give__5 : decode cX12_give_ 5 = .ok (.aload_n 0, 1) := by decide +kernel
theorem dX12_give__6 : decode cX12_give_ 6 = .ok (.iload_n 2, 1) := by decide +kernel
theorem dX12_give__7 : decode cX12_give_ 7 = .ok (.putfield 791, 3) := by decide +kernel
theorem dX12_give__10 : decode cX12_give_ 10 = .ok (.return_, 1) := by decide +kernel
theorem dX12_made_0 : decode cX12_made 0 = .ok (.aload_n 0, 1) := by decide +kernel
theorem dX12_made_1 : decode cX12_made 1 = .ok (.aload_n 0, 1) := by decide +kernel
theorem dX12_made_2 : decode cX12_made 2 = .ok (.getfield 299, 3) := by decide +kernel
theorem dX12_made_5 : decode cX12_made 5 = .ok (.bipush 60, 2) := by decide +kernel
theorem dX12_made_7 : decode cX12_made 7 = .ok (.if_icmp .le 8, 3) := by decide +kernel
theorem dX12_made_10 : decode cX12_made 10 = .ok (.bipush 60, 2) := by decide +kernel
theorem dX12_made_12 : decode cX12_made 12 = .ok (.goto 7, 3) := by decide +kernel
theorem dX12_made_15 : decode cX12_made 15 = .ok (.aload_n 0, 1) := by decide +kernel
theorem dX12_made_16 : decode cX12_made 16 = .ok (.getfield 299, 3) := by decide +kernel
theorem dX12_made_19 : decode cX12_made 19 = .ok (.putfield 299, 3) := by decide +kernel
theorem dX12_made_22 : decode cX12_made 22 = .ok (.aload_n 0, 1) := by decide +kernel
theorem dX12_made_23 : decode cX12_made 23 = .ok (.invokevirtual 302, 3) := by decide +kernel
theorem dX12_made_26 : decode cX12_made 26 = .ok (.istore_n 1, 1) := by decide +kernel
theorem dX12_made_27 : decode cX12_made 27 = .ok (.iload_n 1, 1) := by decide +kernel
theorem dX12_made_28 : decode cX12_made 28 = .ok (.iconst (-1), 1) := by decide +kernel
theorem dX12_made_29 : decode cX12_made 29 = .ok (.if_icmp .eq 5, 3) := by decide +kernel
theorem dX12_made_32 : decode cX12_made 32 = .ok (.iload_n 1, 1) := by decide +kernel
theorem dX12_made_33 : decode cX12_made 33 = .ok (.ireturn, 1) := by decide +kernel
theorem dX12_made_34 : decode cX12_made 34 = .ok (.aload_n 0, 1) := by decide +kernel
theorem dX12_made_35 : decode cX12_made 35 = .ok (.getfield 296, 3) := by decide +kernel
theorem dX12_made_38 : decode cX12_made 38 = .ok (.sipush 400, 3) := by decide +kernel
theorem dX12_made_41 : decode cX12_made 41 = .ok (.if_icmp .ne 10, 3) := by decide +kernel
theorem dX12_made_44 : decode cX12_made 44 = .ok (.aload_n 0, 1) := by decide +kernel
theorem dX12_made_45 : decode cX12_made 45 = .ok (.iconst 1, 1) := by decide +kernel
theorem dX12_made_46 : decode cX12_made 46 = .ok (.putfield 794, 3) := by decide +kernel
theorem dX12_made_49 : decode cX12_made 49 = .ok (.iconst 0, 1) := by decide +kernel
theorem dX12_made_50 : decode cX12_made 50 = .ok (.ireturn, 1) := by decide +kernel
theorem dX12_made_51 : decode cX12_made 51 = .ok (.aload_n 0, 1) := by decide +kernel
theorem dX12_made_52 : decode cX12_made 52 = .ok (.invokevirtual 310, 3) := by decide +kernel
theorem dX12_made_55 : decode cX12_made 55 = .ok (.ireturn, 1) := by decide +kernel
theorem dX12_putString_0 : decode cX12_putString 0 = .ok (.iconst 0, 1) := by decide +kernel
theorem dX12_putString_1 : decode cX12_putString 1 = .ok (.istore_n 2, 1) := by decide +kernel
theorem dX12_putString_2 : decode cX12_putString 2 = .ok (.iload_n 2, 1) := by decide +kernel
theorem dX12_putString_3 : decode cX12_putString 3 = .ok (.aload_n 0, 1) := by decide +kernel
theorem dX12_putString_4 : decode cX12_putString 4 = .ok (.getfield 20, 3) := by decide +kernel
theorem dX12_putString_7 : decode cX12_putString 7 = .ok (.iload_n 1, 1) := by decide +kernel
theorem dX12_putString_8 : decode cX12_putString 8 = .ok (.iaload, 1) := by decide +kernel
theorem dX12_putString_9 : decode cX12_putString 9 = .ok (.if_icmp .ge 24, 3) := by decide +kernel
theorem dX12_putString_12 : decode cX12_putString 12 = .ok (.aload_n 0, 1) := by decide +kernel
theorem dX12_putString_13 : decode cX12_putString 13 = .ok (.aload_n 0, 1) := by decide +kernel
theorem dX12_putString_14 : decode cX12_putString 14 = .ok (.getfield 16, 3) := by decide +kernel
theorem dX12_putString_17 : decode cX12_putString 17 = .ok (.bipush 60, 2) := by decide +kernel
theorem dX12_putString_19 : decode cX12_putString 19 = .ok (.iload_n 1, 1) := by decide +kernel
theorem dX12_putString_20 : decode cX12_putString 20 = .ok (.imul, 1) := by decide +kernel
theorem dX12_putString_21 : decode cX12_putString 21 = .ok (.iload_n 2, 1) := by decide +kernel
theorem dX12_putString_22 : decode cX12_putString 22 = .ok (.iadd, 1) := by decide +kernel
theorem dX12_putString_23 : decode cX12_putString 23 = .ok (.caload, 1) := by decide +kernel
theorem dX12_putString_24 : decode cX12_putString 24 = .ok (.invokevirtual 324, 3) := by decide +kernel
theorem dX12_putString_27 : decode cX12_putString 27 = .ok (.iinc 2 1, 3) := by decide +kernel
theorem dX12_putString_30 : decode cX12_putString 30 = .ok (.goto (-28), 3) := by decide +kernel
theorem dX12_putString_33 : decode cX12_putString 33 = .ok (.return_, 1) := by decide +kernel
theorem dX12_putText_0 : decode cX12_putText 0 = .ok (.iload_n 1, 1) := by decide +kernel
theorem dX12_putText_1 : decode cX12_putText 1 = .ok (.tableswitch 104 0 6 #[43, 52, 61, 70, 79, 88, 96], 43) := by decide +kernel
theorem dX12_putText_44 : decode cX12_putText 44 = .ok (.aload_n 0, 1) := by decide +kernel
theorem dX12_putText_45 : decode cX12_putText 45 = .ok (.bipush 19, 2) := by decide +kernel
theorem dX12_putText_47 : decode cX12_putText 47 = .ok (.invokevirtual 797, 3) := by decide +kernel
theorem dX12_putText_50 : decode cX12_putText 50 = .ok (.goto 61, 3) := by decide +kernel
theorem dX12_putText_53 : decode cX12_putText 53 = .ok (.aload_n 0, 1) := by decide +kernel
theorem dX12_putText_54 : decode cX12_putText 54 = .ok (.bipush 25, 2) := by decide +kernel
theorem dX12_putText_56 : decode cX12_putText 56 = .ok (.invokevirtual 797, 3) := by decide +kernel
theorem dX12_putText_59 : decode cX12_putText 59 = .ok (.goto 52, 3) := by decide +kernel
theorem dX12_putText_62 : decode cX12_putText 62 = .ok (.aload_n 0, 1) := by decide +kernel
theorem dX12_putText_63 : decode cX12_putText 63 = .ok (.bipush 26, 2) := by decide +kernel
theorem dX12_putText_65 : decode cX12_putText 65 = .ok (.invokevirtual 797, 3) := by decide +kernel
theorem dX12_putText_68 : decode cX12_putText 68 = .ok (.goto 43, 3) := by decide +kernel
theorem dX12_putText_71 : decode cX12_putText 71 = .ok (.aload_n 0, 1) := by decide +kernel
theorem dX12_putText_72 : decode cX12_putText 72 = .ok (.bipush 27, 2) := by decide +kernel
theorem dX12_putText_74 : decode cX12_putText 74 = .ok (.invokevirtual 797, 3) := by decide +kernel
theorem dX12_putText_77 : decode cX12_putText 77 = .ok (.goto 34, 3) := by decide +kernel
theorem dX12_putText_80 : decode cX12_putText 80 = .ok (.aload_n 0, 1) := by decide +kernel
theorem dX12_putText_81 : decode cX12_putText 81 = .ok (.bipush 28, 2) := by decide +kernel
theorem dX12_putText_83 : decode cX12_putText 83 = .ok (.invokevirtual 797, 3) := by decide +kernel
theorem dX12_putText_86 : decode cX12_putText 86 = .ok (.goto 25, 3) := by decide +kernel
theorem dX12_putText_89 : decode cX12_putText 89 = .ok (.aload_n 0, 1) := by decide +kernel
theorem dX12_putText_90 : decode cX12_putText 90 = .ok (.iload_n 2, 1) := by decide +kernel
theorem dX12_putText_91 : decode cX12_putText 91 = .ok (.invokevirtual 410, 3) := by decide +kernel
theorem dX12_putText_94 : decode cX12_putText 94 = .ok (.goto 17, 3) := by decide +kernel
theorem dX12_putText_97 : decode cX12_putText 97 = .ok (.aload_n 0, 1) := by decide +kernel
theorem dX12_putText_98 : decode cX12_putText 98 = .ok (.iload_n 2, 1) := by decide +kernel
theorem dX12_putText_99 : decode cX12_putText 99 = .ok (.invokevirtual 797, 3) := by decide +kernel
theorem dX12_putText_102 : decode cX12_putText 102 = .ok (.goto 9, 3) := by decide +kernel
theorem dX12_putText_105 : decode cX12_putText 105 = .ok (.aload_n 0, 1) := by decide +kernel
theorem dX12_putText_106 : decode cX12_putText 106 = .ok (.bipush 29, 2) := by decide +kernel
theorem dX12_putText_108 : decode cX12_putText 108 = .ok (.invokevirtual 797, 3) := by decide +kernel
theorem dX12_putText_111 : decode cX12_putText 111 = .ok (.return_, 1) := by decide +kernel
theorem dX12_textOf_0 : decode cX12_textOf 0 = .ok (.iload_n 1, 1) := by decide +kernel
theorem dX12_textOf_1 : decode cX12_textOf 1 = .ok (.bipush 6, 2) := by decide +kernel
theorem dX12_textOf_3 : decode cX12_textOf 3 = .ok (.if_icmp .ne 5, 3) := by decide +kernel
theorem dX12_textOf_6 : decode cX12_textOf 6 = .ok (.iload_n 2, 1) := by decide +kernel
theorem dX12_textOf_7 : decode cX12_textOf 7 = .ok (.ireturn, 1) := by decide +kernel
theorem dX12_textOf_8 : decode cX12_textOf 8 = .ok (.aload_n 0, 1) := by decide +kernel
theorem dX12_textOf_9 : decode cX12_textOf 9 = .ok (.iconst 0, 1) := by decide +kernel
theorem dX12_textOf_10 : decode cX12_textOf 10 = .ok (.putfield 299, 3) := by decide +kernel
theorem dX12_textOf_13 : decode cX12_textOf 13 = .ok (.aload_n 0, 1) := by decide +kernel
theorem dX12_textOf_14 : decode cX12_textOf 14 = .ok (.iload_n 1, 1) := by decide +kernel
theorem dX12_textOf_15 : decode cX12_textOf 15 = .ok (.iload_n 2, 1) := by decide +kernel
theorem dX12_textOf_16 : decode cX12_textOf 16 = .ok (.invokevirtual 800, 3) := by decide +kernel
theorem dX12_textOf_19 : decode cX12_textOf 19 = .ok (.aload_n 0, 1) := by decide +kernel
theorem dX12_textOf_20 : decode cX12_textOf 20 = .ok (.invokevirtual 803, 3) := by decide +kernel
theorem dX12_textOf_23 : decode cX12_textOf 23 = .ok (.ireturn, 1) := by decide +kernel
theorem sv_idivA {X : Nat → Option (List Int32)} {cs : sv_S → Nat × Nat} {L : Nat → Option ev_M} {sh : sv_S → List sv_C} {F : Nat} {Q : Option Value → sv_S → Prop} {y pc pc' : Nat} {lv : List (Nat × Value)} {st : List Value} {S : sv_S} {M : ev_M} {x z : Int} (hM : L y = some M) (hd : decode M.1.2.1 pc = .ok (.idiv, 1)) (hz : sv_R z) (hn : ¬ z = 0) (hp : pc + 1 = pc') (k : ∀ r : Int, sv_R r → sv_T X cs L sh F Q y pc' lv (sv_I r :: st) S) : sv_T X cs L sh F Q y pc lv (sv_I z :: sv_I x :: st) S := sv_anyI (x := Int32.ofInt x / Int32.ofInt z) hM hd (by
  show (if Int32.ofInt z = 0 then none else some (lv, Value.int (Int32.ofInt x / Int32.ofInt z) :: st)) = _
  exact if_neg (fun q : Int32.ofInt z = 0 => hn ((sv_Ieq (y := 0) hz ⟨by decide, by decide⟩).mp q))) hp (fun r hr _ => k r hr)
theorem sv_iremA {X : Nat → Option (List Int32)} {cs : sv_S → Nat × Nat} {L : Nat → Option ev_M} {sh : sv_S → List sv_C} {F : Nat} {Q : Option Value → sv_S → Prop} {y pc pc' : Nat} {lv : List (Nat × Value)} {st : List Value} {S : sv_S} {M : ev_M} {x z : Int} (hM : L y = some M) (hd : decode M.1.2.1 pc = .ok (.irem, 1)) (hz : sv_R z) (hn : ¬ z = 0) (hp : pc + 1 = pc') (k : ∀ r : Int, sv_R r → sv_T X cs L sh F Q y pc' lv (sv_I r :: st) S) : sv_T X cs L sh F Q y pc lv (sv_I z :: sv_I x :: st) S := sv_anyI (x := Int32.ofInt x - Int32.ofInt x / Int32.ofInt z * Int32.ofInt z) hM hd (by
  show (if Int32.ofInt z = 0 then none else some (lv, Value.int (Int32.ofInt x - Int32.ofInt x / Int32.ofInt z * Int32.ofInt z) :: st)) = _
  exact if_neg (fun q : Int32.ofInt z = 0 => hn ((sv_Ieq (y := 0) hz ⟨by decide, by decide⟩).mp q))) hp (fun r hr _ => k r hr)

def q_give_ (p1 : Int) (p2 : Int) (S : sv_S) : Option Value → sv_S → Prop := fun v S' => v = none ∧ sm_ok S' ∧ sv_mod [1111, 1112] S S' ∧ ((S' 1111 0) = p1 ∧ (S' 1112 0) = p2)
theorem la_give__0 {x0 : Int} : x0 = x0 := by omega
set_option maxHeartbeats 2000000 in
theorem f_give_ : ∀ (p1 : Int) (p2 : Int) (S : sv_S), sm_ok S → sv_R p1 → sv_R p2 → (p1 = p1 ∧ p2 = p2) := by
  intro p1
  intro p2
  intro S
  intro h1_
  intro h2_
  intro h3_
  refine ⟨la_give__0, ?_⟩
  exact la_give__0
set_option maxRecDepth 8000 in
set_option maxHeartbeats 2000000 in
theorem t_give_ : ∀ (p1 : Int) (p2 : Int) (S : sv_S), sm_ok S → sv_R p1 → sv_R p2 → sv_T sm_XS sm_cs sm_L sm_sh 0 (q_give_ p1 p2 S) 122 0 (lv_args 0 [.ref 0, sv_I p1, sv_I p2]) [] S := by
  intro p1 p2 S hok hp1 hp2
  have h := f_give_ p1 p2 S hok hp1 hp2
  have hM := sm_h122
  show sv_T sm_XS sm_cs sm_L sm_sh 0 (q_give_ p1 p2 S) 122 0 [(0, .ref 0), (1, sv_I p1), (2, sv_I p2)] [] S
  refine sv_aload_n hM dX12_give__0 rfl rfl ?_
  refine sv_iload_n hM dX12_give__1 rfl rfl ?_
  refine sv_putI sm_X hM dX12_give__2 sm_fp_788 (sm_a0 _) sm_q111 (Or.inl rfl) rfl rfl rfl rfl ?_
  have ok1 : sm_ok (sv_up S 1111 0 p1) := sm_upI hok sm_r1111 hp1
  have md2 : sv_mod [1111, 1112] S (sv_up S 1111 0 p1) := sv_mod.up sv_mod.rf (by decide)
  refine sv_aload_n hM dX12_give__5 rfl rfl ?_
  refine sv_iload_n hM dX12_give__6 rfl rfl ?_
  refine sv_putI sm_X hM dX12_give__7 sm_fp_791 (sm_a0 _) sm_q112 (Or.inl rfl) rfl rfl rfl rfl ?_
  have ok3 : sm_ok (sv_up (sv_up S 1111 0 p1) 1112 0 p2) := sm_upI ok1 sm_r1112 hp2
  have md4 : sv_mod [1111, 1112] S (sv_up (sv_up S 1111 0 p1) 1112 0 p2) := sv_mod.up md2 (by decide)
  exact sv_vret hM dX12_give__10 rfl ⟨rfl, ok3, md4, h⟩
def q_made (S : sv_S) : Option Value → sv_S → Prop := fun v S' => ∃ r : Int, v = some (sv_I r) ∧ sv_R r ∧ sm_ok S' ∧ sv_mod [1011, 3, 4, 1007, 1075] S S' ∧ (0 ≤ r ∧ r < (S' 1007 0) ∧ ((S' 1075 0) = 0 → (S' 4 r) = (S' 1011 0)) ∧ (S' 1011 0) ≤ (S 1011 0) ∧ (S 1007 0) ≤ (S' 1007 0) ∧ (S' 1007 0) ≤ 400 ∧ sm_LN (S' 4) 400 (S' 1007 0) ∧ ((S 1075 0) = 1 → (S' 1075 0) = 1))
theorem la_made_0 {x0 : Int} (h0 : 31 ≤ x0) : 0 ≤ x0 := by omega
theorem la_made_1 {x0 : Int} (h0 : 0 ≤ x0) (h1 : x0 ≤ 60) : 0 ≤ x0 ∧ x0 ≤ 200 := by omega
theorem la_made_2 {x0 x1 x2 x3 : Int} (h0 : x0 = (-1)) : ¬ (0 ≤ x0 ∧ x0 < x1 ∧ x2 = x3) := by omega
theorem la_made_3 {x0 : Int} (h0 : x0 ≤ 400) (h1 : ¬ x0 = 400) : x0 < 400 := by omega
theorem la_made_4 {x0 x1 : Int} (h0 : 31 ≤ x0) (h1 : 0 ≤ x1) (h2 : x1 ≤ 60) (h3 : x0 < 400) : 0 ≤ x0 ∧ x0 < 400 ∧ 0 ≤ x1 ∧ x1 ≤ 90 ∧ 60 * x0 + x1 ≤ 24000 ∧ (x0 = 0 → x1 = 6) := by omega
theorem la_made_5 {x0 x1 : Int} (h0 : 31 ≤ x0) (h1 : x1 = x0) : 0 ≤ x1 := by omega
theorem la_made_6 {x0 x1 x2 : Int} (h0 : x0 = x1) (h1 : x2 = x1 + 1) : x0 < x2 := by omega
theorem la_made_7 {x0 x1 : Int} (h0 : x0 < 400) (h1 : x1 = x0) : x1 < 400 := by omega
theorem la_made_8 {x0 x1 x2 : Int} (h0 : x0 = x1) (h1 : x2 = x0) : x2 = x1 := by omega
theorem la_made_9 {x0 : Int} : x0 ≤ x0 := by omega
theorem la_made_10 {x0 x1 : Int} (h0 : x0 = x1 + 1) : x1 ≤ x0 := by omega
theorem la_made_11 {x0 x1 : Int} (h0 : x0 < 400) (h1 : x1 = x0 + 1) : x1 ≤ 400 := by omega
theorem la_made_12 : (0 : Int) ≤ 0 := by omega
theorem la_made_13 {x0 : Int} (h0 : ¬ ¬ x0 = 400) : 0 < x0 := by omega
theorem la_made_14 {x0 x1 : Int} : (1 : Int) = 0 → x0 = x1 := by omega
theorem la_made_15 : (1 : Int) = 1 := by omega
theorem la_made_16 {x0 : Int} (h0 : 0 ≤ x0) : (-1) ≤ x0 := by omega
theorem la_made_17 {x0 : Int} (h0 : (-1) ≤ x0) (h1 : ¬ x0 = (-1)) : (-1) < x0 := by omega
theorem la_made_18 {x0 x1 x2 : Int} (h0 : x0 = x1) : x2 = 0 → x0 = x1 := by omega
theorem la_made_19 : (0 : Int) ≤ 60 ∧ (60 : Int) ≤ 200 := by omega
theorem la_made_20 {x0 x1 x2 : Int} (h0 : x0 = (-1)) : ¬ (0 ≤ x0 ∧ x0 < x1 ∧ x2 = 60) := by omega
theorem la_made_21 {x0 : Int} (h0 : 31 ≤ x0) (h1 : x0 < 400) : 0 ≤ x0 ∧ x0 < 400 ∧ (0 : Int) ≤ 60 ∧ (60 : Int) ≤ 90 ∧ 60 * x0 + 60 ≤ 24000 ∧ (x0 = 0 → (60 : Int) = 6) := by omega
theorem la_made_22 {x0 x1 : Int} (h0 : x0 = 60) (h1 : x1 = x0) : x1 = 60 := by omega
theorem la_made_23 {x0 : Int} (h0 : ¬ x0 ≤ 60) : 60 ≤ x0 := by omega
theorem la_made_24 {x0 : Int} : (1 : Int) = 0 → x0 = 60 := by omega
theorem la_made_25 {x0 x1 : Int} (h0 : x0 = 60) : x1 = 0 → x0 = 60 := by omega
set_option maxHeartbeats 2000000 in
theorem f_made : ∀ (S : sv_S), sm_ok S → (31 ≤ (S 1007 0) ∧ (S 1007 0) ≤ 400 ∧ sm_LN (S 4) 400 (S 1007 0) ∧ 0 ≤ (S 1011 0) ∧ (S 1011 0) ≤ 200) → (sv_R (S 1011 0) → ((((S 1011 0) ≤ (60 : Int)) → (0 ≤ (S 1007 0) ∧ (S 1007 0) ≤ 400 ∧ sm_LN (S 4) 400 (S 1007 0) ∧ 0 ≤ (S 1011 0) ∧ (S 1011 0) ≤ 200) ∧ (∀ r9 : Int, sv_R r9 → (r9 = -1 ∨ (0 ≤ r9 ∧ r9 < (S 1007 0) ∧ (S 4 r9) = (S 1011 0))) → (((r9 = (-1 : Int)) → (sv_R (S 1007 0) → (((¬ (S 1007 0) = (400 : Int)) → (0 ≤ (S 1007 0) ∧ (S 1007 0) < 400 ∧ 0 ≤ (S 1011 0) ∧ (S 1011 0) ≤ 90 ∧ 60 * (S 1007 0) + (S 1011 0) ≤ 24000 ∧ ((S 1007 0) = 0 → (S 1011 0) = 6)) ∧ (∀ r16 : Int, sv_R r16 → ∀ g12 : sv_S, (r16 = (S 1007 0) ∧ (g12 1007 0) = (S 1007 0) + 1 ∧ (g12 4 (S 1007 0)) = (S 1011 0) ∧ (sm_LN (S 4) 400 (S 1007 0) → sm_LN (g12 4) 400 (g12 1007 0))) → (0 ≤ r16 ∧ r16 < (g12 1007 0) ∧ ((S 1075 0) = 0 → (g12 4 r16) = (S 1011 0)) ∧ (S 1011 0) ≤ (S 1011 0) ∧ (S 1007 0) ≤ (g12 1007 0) ∧ (g12 1007 0) ≤ 400 ∧ sm_LN (g12 4) 400 (g12 1007 0) ∧ ((S 1075 0) = 1 → (S 1075 0) = 1)))) ∧ ((¬ (¬ (S 1007 0) = (400 : Int))) → (0 ≤ (0 : Int) ∧ (0 : Int) < (S 1007 0) ∧ ((1 : Int) = 0 → (S 4 (0 : Int)) = (S 1011 0)) ∧ (S 1011 0) ≤ (S 1011 0) ∧ (S 1007 0) ≤ (S 1007 0) ∧ (S 1007 0) ≤ 400 ∧ sm_LN (S 4) 400 (S 1007 0) ∧ ((S 1075 0) = 1 → (1 : Int) = 1)))))) ∧ ((¬ (r9 = (-1 : Int))) → (0 ≤ r9 ∧ r9 < (S 1007 0) ∧ ((S 1075 0) = 0 → (S 4 r9) = (S 1011 0)) ∧ (S 1011 0) ≤ (S 1011 0) ∧ (S 1007 0) ≤ (S 1007 0) ∧ (S 1007 0) ≤ 400 ∧ sm_LN (S 4) 400 (S 1007 0) ∧ ((S 1075 0) = 1 → (S 1075 0) = 1)))))) ∧ ((¬ ((S 1011 0) ≤ (60 : Int))) → (0 ≤ (S 1007 0) ∧ (S 1007 0) ≤ 400 ∧ sm_LN (S 4) 400 (S 1007 0) ∧ 0 ≤ (60 : Int) ∧ (60 : Int) ≤ 200) ∧ (∀ r27 : Int, sv_R r27 → (r27 = -1 ∨ (0 ≤ r27 ∧ r27 < (S 1007 0) ∧ (S 4 r27) = (60 : Int))) → (((r27 = (-1 : Int)) → (sv_R (S 1007 0) → (((¬ (S 1007 0) = (400 : Int)) → (0 ≤ (S 1007 0) ∧ (S 1007 0) < 400 ∧ 0 ≤ (60 : Int) ∧ (60 : Int) ≤ 90 ∧ 60 * (S 1007 0) + (60 : Int) ≤ 24000 ∧ ((S 1007 0) = 0 → (60 : Int) = 6)) ∧ (∀ r34 : Int, sv_R r34 → ∀ g30 : sv_S, (r34 = (S 1007 0) ∧ (g30 1007 0) = (S 1007 0) + 1 ∧ (g30 4 (S 1007 0)) = (60 : Int) ∧ (sm_LN (S 4) 400 (S 1007 0) → sm_LN (g30 4) 400 (g30 1007 0))) → (0 ≤ r34 ∧ r34 < (g30 1007 0) ∧ ((S 1075 0) = 0 → (g30 4 r34) = (60 : Int)) ∧ (60 : Int) ≤ (S 1011 0) ∧ (S 1007 0) ≤ (g30 1007 0) ∧ (g30 1007 0) ≤ 400 ∧ sm_LN (g30 4) 400 (g30 1007 0) ∧ ((S 1075 0) = 1 → (S 1075 0) = 1)))) ∧ ((¬ (¬ (S 1007 0) = (400 : Int))) → (0 ≤ (0 : Int) ∧ (0 : Int) < (S 1007 0) ∧ ((1 : Int) = 0 → (S 4 (0 : Int)) = (60 : Int)) ∧ (60 : Int) ≤ (S 1011 0) ∧ (S 1007 0) ≤ (S 1007 0) ∧ (S 1007 0) ≤ 400 ∧ sm_LN (S 4) 400 (S 1007 0) ∧ ((S 1075 0) = 1 → (1 : Int) = 1)))))) ∧ ((¬ (r27 = (-1 : Int))) → (0 ≤ r27 ∧ r27 < (S 1007 0) ∧ ((S 1075 0) = 0 → (S 4 r27) = (60 : Int)) ∧ (60 : Int) ≤ (S 1011 0) ∧ (S 1007 0) ≤ (S 1007 0) ∧ (S 1007 0) ≤ 400 ∧ sm_LN (S 4) 400 (S 1007 0) ∧ ((S 1075 0) = 1 → (S 1075 0) = 1)))))))) := by
  intro S
  intro h1_
  rintro ⟨h2_, ⟨h3_, ⟨h4_, ⟨h5_, h6_⟩⟩⟩⟩
  intro h7_
  refine ⟨?_, ?_⟩
  · skip
    intro h8_
    refine ⟨⟨(la_made_0 h2_), ⟨h3_, ⟨h4_, (la_made_1 h5_ h8_)⟩⟩⟩, ?_⟩
    intro r9
    intro h9_
    intro h10_
    refine ⟨?_, ?_⟩
    · skip
      intro h11_
      have h12_ := (h10_.resolve_right (la_made_2 h11_))
      intro h13_
      refine ⟨?_, ?_⟩
      · skip
        intro h14_
        refine ⟨(la_made_4 h2_ h5_ h8_ (la_made_3 h3_ h14_)), ?_⟩
        intro r16
        intro h15_
        intro g12
        rintro ⟨h16_, ⟨h17_, ⟨h18_, h19_⟩⟩⟩
        have h20_ := (h19_ h4_)
        refine ⟨(la_made_5 h2_ h16_), ?_⟩
        refine ⟨(la_made_6 h16_ h17_), ?_⟩
        refine ⟨?_, ?_⟩
        · skip
          intro h21_
          have e22_ : g12 4 r16 = g12 4 (S 1007 0) := congrArg ((g12 4)) h16_
          exact (la_made_8 h18_ e22_)
        refine ⟨la_made_9, ?_⟩
        refine ⟨(la_made_10 h17_), ?_⟩
        refine ⟨(la_made_11 (la_made_3 h3_ h14_) h17_), ?_⟩
        refine ⟨h20_, ?_⟩
        intro h23_
        exact h23_
      intro h24_
      refine ⟨la_made_12, ?_⟩
      refine ⟨(la_made_13 h24_), ?_⟩
      refine ⟨la_made_14, ?_⟩
      refine ⟨la_made_9, ?_⟩
      refine ⟨la_made_9, ?_⟩
      refine ⟨h3_, ?_⟩
      refine ⟨h4_, ?_⟩
      intro h25_
      exact la_made_15
    intro h26_
    obtain ⟨h27_, ⟨h28_, h29_⟩⟩ := (h10_.resolve_left h26_)
    refine ⟨h27_, ?_⟩
    refine ⟨h28_, ?_⟩
    refine ⟨(la_made_18 h29_), ?_⟩
    refine ⟨la_made_9, ?_⟩
    refine ⟨la_made_9, ?_⟩
    refine ⟨h3_, ?_⟩
    refine ⟨h4_, ?_⟩
    intro h30_
    exact h30_
  intro h31_
  refine ⟨⟨(la_made_0 h2_), ⟨h3_, ⟨h4_, la_made_19⟩⟩⟩, ?_⟩
  intro r27
  intro h32_
  intro h33_
  refine ⟨?_, ?_⟩
  · skip
    intro h34_
    have h35_ := (h33_.resolve_right (la_made_20 h34_))
    intro h36_
    refine ⟨?_, ?_⟩
    · skip
      intro h37_
      refine ⟨(la_made_21 h2_ (la_made_3 h3_ h37_)), ?_⟩
      intro r34
      intro h38_
      intro g30
      rintro ⟨h39_, ⟨h40_, ⟨h41_, h42_⟩⟩⟩
      have h43_ := (h42_ h4_)
      refine ⟨(la_made_5 h2_ h39_), ?_⟩
      refine ⟨(la_made_6 h39_ h40_), ?_⟩
      refine ⟨?_, ?_⟩
      · skip
        intro h44_
        have e45_ : g30 4 r34 = g30 4 (S 1007 0) := congrArg ((g30 4)) h39_
        exact (la_made_22 h41_ e45_)
      refine ⟨(la_made_23 h31_), ?_⟩
      refine ⟨(la_made_10 h40_), ?_⟩
      refine ⟨(la_made_11 (la_made_3 h3_ h37_) h40_), ?_⟩
      refine ⟨h43_, ?_⟩
      intro h46_
      exact h46_
    intro h47_
    refine ⟨la_made_12, ?_⟩
    refine ⟨(la_made_13 h47_), ?_⟩
    refine ⟨la_made_24, ?_⟩
    refine ⟨(la_made_23 h31_), ?_⟩
    refine ⟨la_made_9, ?_⟩
    refine ⟨h3_, ?_⟩
    refine ⟨h4_, ?_⟩
    intro h48_
    exact la_made_15
  intro h49_
  obtain ⟨h50_, ⟨h51_, h52_⟩⟩ := (h33_.resolve_left h49_)
  refine ⟨h50_, ?_⟩
  refine ⟨h51_, ?_⟩
  refine ⟨(la_made_25 h52_), ?_⟩
  refine ⟨(la_made_23 h31_), ?_⟩
  refine ⟨la_made_9, ?_⟩
  refine ⟨h3_, ?_⟩
  refine ⟨h4_, ?_⟩
  intro h53_
  exact h53_
set_option maxRecDepth 8000 in
set_option maxHeartbeats 2000000 in
theorem t_made : ∀ (S : sv_S), sm_ok S → (31 ≤ (S 1007 0) ∧ (S 1007 0) ≤ 400 ∧ sm_LN (S 4) 400 (S 1007 0) ∧ 0 ≤ (S 1011 0) ∧ (S 1011 0) ≤ 200) → sv_T sm_XS sm_cs sm_L sm_sh 1 (q_made S) 123 0 (lv_args 0 [.ref 0]) [] S := by
  intro S hok hpre
  have h := f_made S hok hpre
  have hM := sm_h123
  show sv_T sm_XS sm_cs sm_L sm_sh 1 (q_made S) 123 0 [(0, .ref 0)] [] S
  refine sv_aload_n hM dX12_made_0 rfl rfl ?_
  refine sv_aload_n hM dX12_made_1 rfl rfl ?_
  have k1 : sv_R (S 1011 0) := sm_okI hok sm_r1011 0
  have h := h k1
  refine sv_getI hM dX12_made_2 sm_fl_299 (sm_a0 _) sm_k11 rfl (x := (S 1011 0)) rfl ?_
  refine sv_bipush (d := (60 : Int)) hM dX12_made_5 rfl rfl ?_
  refine sv_icmp_le hM dX12_made_7 k1 (⟨by decide, by decide⟩ : sv_R (60 : Int)) (t := 15) rfl rfl (fun hc => ?_) (fun hc => ?_)
  · have h := h.1 (hc)
    refine sv_aload_n hM dX12_made_15 rfl rfl ?_
    refine sv_getI hM dX12_made_16 sm_fl_299 (sm_a0 _) sm_k11 rfl (x := (S 1011 0)) rfl ?_
    refine sv_putI sm_X hM dX12_made_19 sm_fp_299 (sm_a0 _) sm_q11 (Or.inl rfl) rfl rfl rfl rfl ?_
    have ok2 : sm_ok (sv_up S 1011 0 (S 1011 0)) := sm_upI hok sm_r1011 k1
    have md3 : sv_mod [1011, 3, 4, 1007, 1075] S (sv_up S 1011 0 (S 1011 0)) := sv_mod.up sv_mod.rf (by decide)
    refine sv_aload_n hM dX12_made_22 rfl rfl ?_
    obtain ⟨o4, h⟩ := h
    refine sv_callV hM dX12_made_23 sm_iv_302 (by decide) (sm_a0 _) rfl rfl (Nat.le_of_ble_eq_true rfl) sm_h5 (Nat.le_of_ble_eq_true rfl) (Nat.le_of_ble_eq_true rfl) (F' := 0) (Nat.le_of_ble_eq_true rfl) rfl (t_findText  (sv_up S 1011 0 (S 1011 0)) ok2 o4) (fun v S1 hq => ?_)
    obtain ⟨r9, rfl, hr9, ok6, md7, hpo8⟩ := hq
    obtain rfl : (sv_up S 1011 0 (S 1011 0)) = S1 := (funext fun j => md7 j (by intro q; cases q)).symm
    show sv_T sm_XS sm_cs sm_L sm_sh 1 (q_made S) 123 26 [(0, .ref 0)] [sv_I r9] (sv_up S 1011 0 (S 1011 0))
    have h := h r9 hr9 hpo8
    refine sv_istore_n hM dX12_made_26 (by decide) rfl ?_
    show sv_T sm_XS sm_cs sm_L sm_sh 1 (q_made S) 123 27 [(0, .ref 0), (1, sv_I r9)] [] (sv_up S 1011 0 (S 1011 0))
    refine sv_iload_n hM dX12_made_27 rfl rfl ?_
    refine sv_iconst (d := (-1 : Int)) hM dX12_made_28 rfl rfl ?_
    refine sv_icmp_eq hM dX12_made_29 hr9 (⟨by decide, by decide⟩ : sv_R (-1 : Int)) (t := 34) rfl rfl (fun hc => ?_) (fun hc => ?_)
    · have h := h.1 (hc)
      refine sv_aload_n hM dX12_made_34 rfl rfl ?_
      have k10 : sv_R (S 1007 0) := sm_okI ok6 sm_r1007 0
      have h := h k10
      refine sv_getI hM dX12_made_35 sm_fl_296 (sm_a0 _) sm_k7 rfl (x := (S 1007 0)) rfl ?_
      refine sv_sipush (d := (400 : Int)) hM dX12_made_38 rfl rfl ?_
      refine sv_icmp_ne hM dX12_made_41 k10 (⟨by decide, by decide⟩ : sv_R (400 : Int)) (t := 51) rfl rfl (fun hc => ?_) (fun hc => ?_)
      · have h := h.1 (hc)
        refine sv_aload_n hM dX12_made_51 rfl rfl ?_
        obtain ⟨o11, h⟩ := h
        refine sv_callV hM dX12_made_52 sm_iv_310 (by decide) (sm_a0 _) rfl rfl (Nat.le_of_ble_eq_true rfl) sm_h6 (Nat.le_of_ble_eq_true rfl) (Nat.le_of_ble_eq_true rfl) (F' := 0) (Nat.le_of_ble_eq_true rfl) rfl (t_addText  (sv_up S 1011 0 (S 1011 0)) ok6 o11) (fun v S1 hq => ?_)
        obtain ⟨r16, rfl, hr16, ok13, md14, hpo15⟩ := hq
        obtain ⟨g12, rfl⟩ : ∃ g, S1 = sv_sts (sv_up S 1011 0 (S 1011 0)) [3, 4, 1007] g := ⟨_, md14.eq⟩
        show sv_T sm_XS sm_cs sm_L sm_sh 1 (q_made S) 123 55 [(0, .ref 0), (1, sv_I r9)] [sv_I r16] (sv_sts (sv_up S 1011 0 (S 1011 0)) [3, 4, 1007] g12)
        have md17 : sv_mod [1011, 3, 4, 1007, 1075] S (sv_sts (sv_up S 1011 0 (S 1011 0)) [3, 4, 1007] g12) := sv_mod.sts md3 (by decide)
        have h := h r16 hr16 g12 hpo15
        exact sv_iret hM dX12_made_55 rfl rfl ⟨r16, rfl, hr16, ok13, md17, h⟩
      · have h := h.2 (hc)
        refine sv_aload_n hM dX12_made_44 rfl rfl ?_
        refine sv_iconst (d := (1 : Int)) hM dX12_made_45 rfl rfl ?_
        refine sv_putI sm_X hM dX12_made_46 sm_fp_794 (sm_a0 _) sm_q75 (Or.inr rfl) rfl (sv_nz (⟨by decide, by decide⟩ : 0 ≤ (1 : Int) ∧ (1 : Int) ≤ 1)) (sv_fz (⟨by decide, by decide⟩ : 0 ≤ (1 : Int) ∧ (1 : Int) ≤ 1)) rfl ?_
        have ok18 : sm_ok (sv_up (sv_up S 1011 0 (S 1011 0)) 1075 0 (1 : Int)) := sm_upZ ok6 sm_r1075 (⟨by decide, by decide⟩ : 0 ≤ (1 : Int) ∧ (1 : Int) ≤ 1)
        have md19 : sv_mod [1011, 3, 4, 1007, 1075] S (sv_up (sv_up S 1011 0 (S 1011 0)) 1075 0 (1 : Int)) := sv_mod.up md3 (by decide)
        refine sv_iconst (d := (0 : Int)) hM dX12_made_49 rfl rfl ?_
        exact sv_iret hM dX12_made_50 rfl rfl ⟨(0 : Int), rfl, (⟨by decide, by decide⟩ : sv_R (0 : Int)), ok18, md19, h⟩
    · have h := h.2 (hc)
      refine sv_iload_n hM dX12_made_32 rfl rfl ?_
      exact sv_iret hM dX12_made_33 rfl rfl ⟨r9, rfl, hr9, ok6, md3, h⟩
  · have h := h.2 (hc)
    refine sv_bipush (d := (60 : Int)) hM dX12_made_10 rfl rfl ?_
    refine sv_goto hM dX12_made_12 (pc' := 19) rfl ?_
    refine sv_putI sm_X hM dX12_made_19 sm_fp_299 (sm_a0 _) sm_q11 (Or.inl rfl) rfl rfl rfl rfl ?_
    have ok20 : sm_ok (sv_up S 1011 0 (60 : Int)) := sm_upI hok sm_r1011 (⟨by decide, by decide⟩ : sv_R (60 : Int))
    have md21 : sv_mod [1011, 3, 4, 1007, 1075] S (sv_up S 1011 0 (60 : Int)) := sv_mod.up sv_mod.rf (by decide)
    refine sv_aload_n hM dX12_made_22 rfl rfl ?_
    obtain ⟨o22, h⟩ := h
    refine sv_callV hM dX12_made_23 sm_iv_302 (by decide) (sm_a0 _) rfl rfl (Nat.le_of_ble_eq_true rfl) sm_h5 (Nat.le_of_ble_eq_true rfl) (Nat.le_of_ble_eq_true rfl) (F' := 0) (Nat.le_of_ble_eq_true rfl) rfl (t_findText  (sv_up S 1011 0 (60 : Int)) ok20 o22) (fun v S1 hq => ?_)
    obtain ⟨r27, rfl, hr27, ok24, md25, hpo26⟩ := hq
    obtain rfl : (sv_up S 1011 0 (60 : Int)) = S1 := (funext fun j => md25 j (by intro q; cases q)).symm
    show sv_T sm_XS sm_cs sm_L sm_sh 1 (q_made S) 123 26 [(0, .ref 0)] [sv_I r27] (sv_up S 1011 0 (60 : Int))
    have h := h r27 hr27 hpo26
    refine sv_istore_n hM dX12_made_26 (by decide) rfl ?_
    show sv_T sm_XS sm_cs sm_L sm_sh 1 (q_made S) 123 27 [(0, .ref 0), (1, sv_I r27)] [] (sv_up S 1011 0 (60 : Int))
    refine sv_iload_n hM dX12_made_27 rfl rfl ?_
    refine sv_iconst (d := (-1 : Int)) hM dX12_made_28 rfl rfl ?_
    refine sv_icmp_eq hM dX12_made_29 hr27 (⟨by decide, by decide⟩ : sv_R (-1 : Int)) (t := 34) rfl rfl (fun hc => ?_) (fun hc => ?_)
    · have h := h.1 (hc)
      refine sv_aload_n hM dX12_made_34 rfl rfl ?_
      have k28 : sv_R (S 1007 0) := sm_okI ok24 sm_r1007 0
      have h := h k28
      refine sv_getI hM dX12_made_35 sm_fl_296 (sm_a0 _) sm_k7 rfl (x := (S 1007 0)) rfl ?_
      refine sv_sipush (d := (400 : Int)) hM dX12_made_38 rfl rfl ?_
      refine sv_icmp_ne hM dX12_made_41 k28 (⟨by decide, by decide⟩ : sv_R (400 : Int)) (t := 51) rfl rfl (fun hc => ?_) (fun hc => ?_)
      · have h := h.1 (hc)
        refine sv_aload_n hM dX12_made_51 rfl rfl ?_
        obtain ⟨o29, h⟩ := h
        refine sv_callV hM dX12_made_52 sm_iv_310 (by decide) (sm_a0 _) rfl rfl (Nat.le_of_ble_eq_true rfl) sm_h6 (Nat.le_of_ble_eq_true rfl) (Nat.le_of_ble_eq_true rfl) (F' := 0) (Nat.le_of_ble_eq_true rfl) rfl (t_addText  (sv_up S 1011 0 (60 : Int)) ok24 o29) (fun v S1 hq => ?_)
        obtain ⟨r34, rfl, hr34, ok31, md32, hpo33⟩ := hq
        obtain ⟨g30, rfl⟩ : ∃ g, S1 = sv_sts (sv_up S 1011 0 (60 : Int)) [3, 4, 1007] g := ⟨_, md32.eq⟩
        show sv_T sm_XS sm_cs sm_L sm_sh 1 (q_made S) 123 55 [(0, .ref 0), (1, sv_I r27)] [sv_I r34] (sv_sts (sv_up S 1011 0 (60 : Int)) [3, 4, 1007] g30)
        have md35 : sv_mod [1011, 3, 4, 1007, 1075] S (sv_sts (sv_up S 1011 0 (60 : Int)) [3, 4, 1007] g30) := sv_mod.sts md21 (by decide)
        have h := h r34 hr34 g30 hpo33
        exact sv_iret hM dX12_made_55 rfl rfl ⟨r34, rfl, hr34, ok31, md35, h⟩
      · have h := h.2 (hc)
        refine sv_aload_n hM dX12_made_44 rfl rfl ?_
        refine sv_iconst (d := (1 : Int)) hM dX12_made_45 rfl rfl ?_
        refine sv_putI sm_X hM dX12_made_46 sm_fp_794 (sm_a0 _) sm_q75 (Or.inr rfl) rfl (sv_nz (⟨by decide, by decide⟩ : 0 ≤ (1 : Int) ∧ (1 : Int) ≤ 1)) (sv_fz (⟨by decide, by decide⟩ : 0 ≤ (1 : Int) ∧ (1 : Int) ≤ 1)) rfl ?_
        have ok36 : sm_ok (sv_up (sv_up S 1011 0 (60 : Int)) 1075 0 (1 : Int)) := sm_upZ ok24 sm_r1075 (⟨by decide, by decide⟩ : 0 ≤ (1 : Int) ∧ (1 : Int) ≤ 1)
        have md37 : sv_mod [1011, 3, 4, 1007, 1075] S (sv_up (sv_up S 1011 0 (60 : Int)) 1075 0 (1 : Int)) := sv_mod.up md21 (by decide)
        refine sv_iconst (d := (0 : Int)) hM dX12_made_49 rfl rfl ?_
        exact sv_iret hM dX12_made_50 rfl rfl ⟨(0 : Int), rfl, (⟨by decide, by decide⟩ : sv_R (0 : Int)), ok36, md37, h⟩
    · have h := h.2 (hc)
      refine sv_iload_n hM dX12_made_32 rfl rfl ?_
      exact sv_iret hM dX12_made_33 rfl rfl ⟨r27, rfl, hr27, ok24, md21, h⟩
def q_putString (p1 : Int) (S : sv_S) : Option Value → sv_S → Prop := fun v S' => v = none ∧ sm_ok S' ∧ sv_mod [5, 1011] S S' ∧ ((S 1011 0) ≤ (S' 1011 0) ∧ (S' 1011 0) ≤ (S 1011 0) + 90)
theorem la_putString_0 : (0 : Int) ≤ 0 := by omega
theorem la_putString_1 {x0 : Int} : x0 = x0 + 0 := by omega
theorem la_putString_2 {x0 x1 : Int} (h0 : x0 ≤ x1) : 0 ≤ x1 - x0 := by omega
theorem la_putString_3 {x0 : Int} (h0 : 0 ≤ x0) (h1 : x0 < 400) : 0 ≤ x0 ∧ x0 < 400 := by omega
theorem la_putString_4 {x0 x1 x2 : Int} (h0 : 0 ≤ x0) (h1 : x1 = x2 + x0) : x2 ≤ x1 := by omega
theorem la_putString_5 {x0 x1 x2 x3 : Int} (h0 : x0 ≤ x1) (h1 : x2 = x3 + x0) (h2 : x1 ≤ 90) : x2 ≤ x3 + 90 := by omega
theorem la_putString_6 {x0 x1 : Int} (h0 : 0 ≤ x0) (h1 : 0 ≤ x1) : 0 ≤ 60 * x0 + x1 := by omega
theorem la_putString_7 {x0 x1 x2 : Int} (h0 : ¬ x0 ≤ x1) (h1 : 60 * x2 + x0 ≤ 24000) : 60 * x2 + x1 < 24000 := by omega
theorem la_putString_8 {x0 x1 x2 : Int} (h0 : 0 ≤ x0) (h1 : 0 ≤ x1) (h2 : x2 = x0 + x1) : 0 ≤ x2 := by omega
theorem la_putString_9 {x0 x1 x2 x3 : Int} (h0 : x0 ≤ 100) (h1 : x1 = x0 + x2) (h2 : ¬ x3 ≤ x2) (h3 : x3 ≤ 90) : x1 < 200 := by omega
theorem la_putString_10 {x0 x1 : Int} (h0 : 0 ≤ x0) (h1 : sv_R x1) (h2 : ¬ x1 ≤ x0) : sv_R (x0 + 1) := by omega
theorem la_putString_11 {x0 x1 x2 x3 x4 : Int} (h0 : 0 ≤ x0) (h1 : x1 = x2 + x0) (h2 : ¬ x3 ≤ x0) (h3 : x4 = x1 + 1) : 0 ≤ x0 + 1 ∧ x0 + 1 ≤ x3 ∧ x4 = x2 + (x0 + 1) := by omega
theorem la_putString_12 {x0 x1 : Int} : x0 - (x1 + 1) < x0 - x1 := by omega
set_option maxHeartbeats 2000000 in
theorem f_putString : ∀ (p1 : Int) (S : sv_S), sm_ok S → sv_R p1 → (31 ≤ (S 1007 0) ∧ (S 1007 0) ≤ 400 ∧ sm_LN (S 4) 400 (S 1007 0) ∧ 0 ≤ p1 ∧ p1 < 400 ∧ 0 ≤ (S 1011 0) ∧ (S 1011 0) ≤ 100) → ((0 ≤ (0 : Int) ∧ (0 : Int) ≤ (S 4 p1) ∧ (S 1011 0) = (S 1011 0) + (0 : Int)) ∧ (∀ l2_2 : Int, sv_R l2_2 → ∀ g1 : sv_S, (0 ≤ l2_2 ∧ l2_2 ≤ (S 4 p1) ∧ (g1 1011 0) = (S 1011 0) + l2_2) → (0 ≤ (S 4 p1) - l2_2) ∧ (0 ≤ p1 ∧ p1 < 400) ∧ (sv_R (S 4 p1) → ((((S 4 p1) ≤ l2_2) → ((S 1011 0) ≤ (g1 1011 0) ∧ (g1 1011 0) ≤ (S 1011 0) + 90)) ∧ ((¬ ((S 4 p1) ≤ l2_2)) → (0 ≤ (((60 : Int) * p1) + l2_2) ∧ (((60 : Int) * p1) + l2_2) < 24000) ∧ ((0 ≤ (S 3 (((60 : Int) * p1) + l2_2)) ∧ (S 3 (((60 : Int) * p1) + l2_2)) ≤ 65535) → (0 ≤ (g1 1011 0) ∧ (g1 1011 0) < 200 ∧ 0 ≤ (S 3 (((60 : Int) * p1) + l2_2)) ∧ (S 3 (((60 : Int) * p1) + l2_2)) ≤ 65535) ∧ (∀ g13 : sv_S, ((g13 1011 0) = (g1 1011 0) + 1) → (sv_R (l2_2 + (1 : Int))) ∧ ((0 ≤ (l2_2 + (1 : Int)) ∧ (l2_2 + (1 : Int)) ≤ (S 4 p1) ∧ (g13 1011 0) = (S 1011 0) + (l2_2 + (1 : Int))) ∧ ((S 4 p1) - (l2_2 + (1 : Int))) < ((S 4 p1) - l2_2))))))))) := by
  intro p1
  intro S
  intro h1_
  intro h2_
  rintro ⟨h3_, ⟨h4_, ⟨h5_, ⟨h6_, ⟨h7_, ⟨h8_, h9_⟩⟩⟩⟩⟩⟩
  refine ⟨?_, ?_⟩
  · skip
    refine ⟨la_putString_0, ?_⟩
    refine ⟨?_, ?_⟩
    · skip
      exact (sm_LN_at h5_ p1 h6_ h7_).1
    exact la_putString_1
  intro l2_2
  intro h10_
  intro g1
  rintro ⟨h11_, ⟨h12_, h13_⟩⟩
  refine ⟨(la_putString_2 h12_), ?_⟩
  refine ⟨(la_putString_3 h6_ h7_), ?_⟩
  intro h14_
  refine ⟨?_, ?_⟩
  · skip
    intro h15_
    refine ⟨(la_putString_4 h11_ h13_), ?_⟩
    exact (la_putString_5 h12_ h13_ (sm_LN_at h5_ p1 h6_ h7_).2.1)
  intro h16_
  refine ⟨?_, ?_⟩
  · skip
    refine ⟨(la_putString_6 h6_ h11_), ?_⟩
    exact (la_putString_7 h16_ (sm_LN_at h5_ p1 h6_ h7_).2.2)
  rintro ⟨h17_, h18_⟩
  refine ⟨?_, ?_⟩
  · skip
    refine ⟨(la_putString_8 h8_ h11_ h13_), ?_⟩
    refine ⟨?_, ?_⟩
    · skip
      exact (la_putString_9 h9_ h13_ h16_ (sm_LN_at h5_ p1 h6_ h7_).2.1)
    refine ⟨h17_, ?_⟩
    exact h18_
  intro g13
  intro h19_
  refine ⟨(la_putString_10 h11_ h14_ h16_), ?_⟩
  refine ⟨(la_putString_11 h11_ h13_ h16_ h19_), ?_⟩
  exact la_putString_12
set_option maxRecDepth 8000 in
set_option maxHeartbeats 2000000 in
theorem t_putString : ∀ (p1 : Int) (S : sv_S), sm_ok S → sv_R p1 → (31 ≤ (S 1007 0) ∧ (S 1007 0) ≤ 400 ∧ sm_LN (S 4) 400 (S 1007 0) ∧ 0 ≤ p1 ∧ p1 < 400 ∧ 0 ≤ (S 1011 0) ∧ (S 1011 0) ≤ 100) → sv_T sm_XS sm_cs sm_L sm_sh 1 (q_putString p1 S) 124 0 (lv_args 0 [.ref 0, sv_I p1]) [] S := by
  intro p1 S hok hp1 hpre
  have h := f_putString p1 S hok hp1 hpre
  have hM := sm_h124
  show sv_T sm_XS sm_cs sm_L sm_sh 1 (q_putString p1 S) 124 0 [(0, .ref 0), (1, sv_I p1)] [] S
  refine sv_iconst (d := (0 : Int)) hM dX12_putString_0 rfl rfl ?_
  refine sv_istore_n hM dX12_putString_1 (by decide) rfl ?_
  show sv_T sm_XS sm_cs sm_L sm_sh 1 (q_putString p1 S) 124 2 [(0, .ref 0), (1, sv_I p1), (2, sv_I (0 : Int))] [] S
  obtain ⟨hin4, h⟩ := h
  have hJ : ∀ a : Int × sv_S, (sv_R a.1 ∧ sm_ok (sv_sts S [5, 1011] a.2) ∧ (0 ≤ a.1 ∧ a.1 ≤ (S 4 p1) ∧ (a.2 1011 0) = (S 1011 0) + a.1)) → sv_T sm_XS sm_cs sm_L sm_sh 1 (q_putString p1 S) 124 2 [(0, .ref 0), (1, sv_I p1), (2, sv_I a.1)] [] (sv_sts S [5, 1011] a.2) := by
    refine sv_loop (α := Int × sv_S) (fun a => sv_R a.1 ∧ sm_ok (sv_sts S [5, 1011] a.2) ∧ (0 ≤ a.1 ∧ a.1 ≤ (S 4 p1) ∧ (a.2 1011 0) = (S 1011 0) + a.1)) (fun a => (S 4 p1) - a.1) (fun a => sv_T sm_XS sm_cs sm_L sm_sh 1 (q_putString p1 S) 124 2 [(0, .ref 0), (1, sv_I p1), (2, sv_I a.1)] [] (sv_sts S [5, 1011] a.2)) (fun a q => (h a.1 q.1 a.2 q.2.2).1) (fun a q ih3 => ?_)
    obtain ⟨l2_2, g1⟩ := a
    obtain ⟨hl2_2, ok5, hin4i⟩ := q
    have h := (h l2_2 hl2_2 g1 hin4i).2
    show sv_T sm_XS sm_cs sm_L sm_sh 1 (q_putString p1 S) 124 2 [(0, .ref 0), (1, sv_I p1), (2, sv_I l2_2)] [] (sv_sts S [5, 1011] g1)
    have md6 : sv_mod [5, 1011] S (sv_sts S [5, 1011] g1) := sv_mod.sts sv_mod.rf (by decide)
    have md7 : sv_mod [5, 1011] S (sv_sts S [5, 1011] g1) := sv_mod.sts sv_mod.rf (by decide)
    refine sv_iload_n hM dX12_putString_2 rfl rfl ?_
    refine sv_aload_n hM dX12_putString_3 rfl rfl ?_
    refine sv_getA hM dX12_putString_4 sm_fl_20 (sm_a0 _) sm_k6 rfl ?_
    refine sv_iload_n hM dX12_putString_7 rfl rfl ?_
    obtain ⟨o8, h⟩ := h
    have k9 : sv_R (S 4 p1) := sm_okI ok5 sm_r4 p1
    have h := h k9
    refine sv_iald hM dX12_putString_8 (sm_a4 _) (by decide) o8.1 o8.2 rfl (x := (S 4 p1)) rfl ?_
    refine sv_icmp_ge hM dX12_putString_9 hl2_2 k9 (t := 33) rfl rfl (fun hc => ?_) (fun hc => ?_)
    · have h := h.1 (hc)
      exact sv_vret hM dX12_putString_33 rfl ⟨rfl, ok5, md6, h⟩
    · have h := h.2 (hc)
      refine sv_aload_n hM dX12_putString_12 rfl rfl ?_
      refine sv_aload_n hM dX12_putString_13 rfl rfl ?_
      refine sv_getA hM dX12_putString_14 sm_fl_16 (sm_a0 _) sm_k5 rfl ?_
      refine sv_bipush (d := (60 : Int)) hM dX12_putString_17 rfl rfl ?_
      refine sv_iload_n hM dX12_putString_19 rfl rfl ?_
      refine sv_imul hM dX12_putString_20 rfl ?_
      refine sv_iload_n hM dX12_putString_21 rfl rfl ?_
      refine sv_iadd hM dX12_putString_22 rfl ?_
      obtain ⟨o10, h⟩ := h
      have k11 : (0 ≤ (S 3 (((60 : Int) * p1) + l2_2)) ∧ (S 3 (((60 : Int) * p1) + l2_2)) ≤ 65535) := sm_okC ok5 sm_r3 (((60 : Int) * p1) + l2_2)
      have h := h k11
      refine sv_cald hM dX12_putString_23 (sm_a3 _) (by decide) o10.1 o10.2 rfl (x := (S 3 (((60 : Int) * p1) + l2_2))) rfl ?_
      obtain ⟨o12, h⟩ := h
      refine sv_callV hM dX12_putString_24 sm_iv_324 (by decide) (sm_a0 _) rfl rfl (Nat.le_of_ble_eq_true rfl) sm_h7 (Nat.le_of_ble_eq_true rfl) (Nat.le_of_ble_eq_true rfl) (F' := 0) (Nat.le_of_ble_eq_true rfl) rfl (t_put (S 3 (((60 : Int) * p1) + l2_2)) (sv_sts S [5, 1011] g1) ok5 (sv_RC k11) o12) (fun v S1 hq => ?_)
      obtain ⟨rfl, ok14, md15, hpo16⟩ := hq
      obtain ⟨g13, rfl⟩ : ∃ g, S1 = sv_sts (sv_sts S [5, 1011] g1) [5, 1011] g := ⟨_, md15.eq⟩
      show sv_T sm_XS sm_cs sm_L sm_sh 1 (q_putString p1 S) 124 27 [(0, .ref 0), (1, sv_I p1), (2, sv_I l2_2)] [] (sv_sts (sv_sts S [5, 1011] g1) [5, 1011] g13)
      have md17 : sv_mod [5, 1011] S (sv_sts (sv_sts S [5, 1011] g1) [5, 1011] g13) := sv_mod.sts md6 (by decide)
      have md18 : sv_mod [5, 1011] S (sv_sts (sv_sts S [5, 1011] g1) [5, 1011] g13) := sv_mod.sts md7 (by decide)
      have h := h g13 hpo16
      refine sv_iinc (d := (1 : Int)) hM dX12_putString_27 rfl (by decide) rfl rfl ?_
      show sv_T sm_XS sm_cs sm_L sm_sh 1 (q_putString p1 S) 124 30 [(0, .ref 0), (1, sv_I p1), (2, sv_I (l2_2 + (1 : Int)))] [] (sv_sts (sv_sts S [5, 1011] g1) [5, 1011] g13)
      refine sv_goto hM dX12_putString_30 (pc' := 2) rfl ?_
      obtain ⟨o19, h⟩ := h
      have eS := sv_mod.eq md18
      have hb := ih3 ((l2_2 + (1 : Int)), (sv_sts (sv_sts S [5, 1011] g1) [5, 1011] g13)) ⟨o19, (by rw [← eS]; exact ok14), h.1⟩ h.2
      have hb : sv_T sm_XS sm_cs sm_L sm_sh 1 (q_putString p1 S) 124 2 [(0, .ref 0), (1, sv_I p1), (2, sv_I (l2_2 + (1 : Int)))] [] (sv_sts (sv_sts S [5, 1011] g1) [5, 1011] g13) := Eq.mpr (congrArg (fun Z => sv_T sm_XS sm_cs sm_L sm_sh 1 (q_putString p1 S) 124 2 [(0, .ref 0), (1, sv_I p1), (2, sv_I (l2_2 + (1 : Int)))] [] Z) eS) hb
      exact sv_less (lv := [(0, .ref 0), (1, sv_I p1), (2, sv_I (l2_2 + (1 : Int)))]) (sv_Sub_cons rfl (sv_Sub_cons rfl (sv_Sub_cons rfl sv_Sub_nil))) hb
  have eS := sv_mod.eq (sv_mod.rf (l := [5, 1011]) (S := S))
  have hb := hJ ((0 : Int), S) ⟨(⟨by decide, by decide⟩ : sv_R (0 : Int)), (by rw [← eS]; exact hok), hin4⟩
  have hb : sv_T sm_XS sm_cs sm_L sm_sh 1 (q_putString p1 S) 124 2 [(0, .ref 0), (1, sv_I p1), (2, sv_I (0 : Int))] [] S := Eq.mpr (congrArg (fun Z => sv_T sm_XS sm_cs sm_L sm_sh 1 (q_putString p1 S) 124 2 [(0, .ref 0), (1, sv_I p1), (2, sv_I (0 : Int))] [] Z) eS) hb
  exact hb
def q_putText (p1 : Int) (p2 : Int) (S : sv_S) : Option Value → sv_S → Prop := fun v S' => v = none ∧ sm_ok S' ∧ sv_mod [5, 1011] S S' ∧ ((S 1011 0) ≤ (S' 1011 0) ∧ (S' 1011 0) ≤ (S 1011 0) + 90 ∧ (p1 = 5 → 0 ≤ p2 → p2 ≤ 100 → (S' 1011 0) ≤ (S 1011 0) + 3))
theorem la_putText_0 {x0 : Int} (h0 : 0 ≤ x0) (h1 : x0 ≤ 100) : (0 : Int) ≤ 29 ∧ (29 : Int) < 400 ∧ 0 ≤ x0 ∧ x0 ≤ 100 := by omega
theorem la_putText_1 {x0 : Int} (h0 : x0 = 5) : ¬ x0 = 6 := by omega
theorem la_putText_2 {x0 : Int} (h0 : x0 = 5) : ¬ x0 < 0 := by omega
theorem la_putText_3 {x0 : Int} (h0 : x0 = 5) (h1 : 6 < x0) : False := by omega
theorem la_putText_4 {x0 : Int} (h0 : x0 = 0) : ¬ x0 = 6 := by omega
theorem la_putText_5 {x0 : Int} (h0 : 0 ≤ x0) (h1 : x0 ≤ 100) : (0 : Int) ≤ 19 ∧ (19 : Int) < 400 ∧ 0 ≤ x0 ∧ x0 ≤ 100 := by omega
theorem la_putText_6 {x0 : Int} (h0 : x0 = 0) (h1 : x0 = 5) : False := by omega
theorem la_putText_7 {x0 : Int} (h0 : x0 = 1) : ¬ x0 = 6 := by omega
theorem la_putText_8 {x0 : Int} (h0 : 0 ≤ x0) (h1 : x0 ≤ 100) : (0 : Int) ≤ 25 ∧ (25 : Int) < 400 ∧ 0 ≤ x0 ∧ x0 ≤ 100 := by omega
theorem la_putText_9 {x0 : Int} (h0 : x0 = 1) (h1 : x0 = 5) : False := by omega
theorem la_putText_10 {x0 : Int} (h0 : x0 = 2) : ¬ x0 = 6 := by omega
theorem la_putText_11 {x0 : Int} (h0 : 0 ≤ x0) (h1 : x0 ≤ 100) : (0 : Int) ≤ 26 ∧ (26 : Int) < 400 ∧ 0 ≤ x0 ∧ x0 ≤ 100 := by omega
theorem la_putText_12 {x0 : Int} (h0 : x0 = 2) (h1 : x0 = 5) : False := by omega
theorem la_putText_13 {x0 : Int} (h0 : x0 = 3) : ¬ x0 = 6 := by omega
theorem la_putText_14 {x0 : Int} (h0 : 0 ≤ x0) (h1 : x0 ≤ 100) : (0 : Int) ≤ 27 ∧ (27 : Int) < 400 ∧ 0 ≤ x0 ∧ x0 ≤ 100 := by omega
theorem la_putText_15 {x0 : Int} (h0 : x0 = 3) (h1 : x0 = 5) : False := by omega
theorem la_putText_16 {x0 : Int} (h0 : x0 = 4) : ¬ x0 = 6 := by omega
theorem la_putText_17 {x0 : Int} (h0 : 0 ≤ x0) (h1 : x0 ≤ 100) : (0 : Int) ≤ 28 ∧ (28 : Int) < 400 ∧ 0 ≤ x0 ∧ x0 ≤ 100 := by omega
theorem la_putText_18 {x0 : Int} (h0 : x0 = 4) (h1 : x0 = 5) : False := by omega
theorem la_putText_19 {x0 : Int} (h0 : 0 ≤ x0) (h1 : x0 ≤ 100) : 0 ≤ x0 ∧ x0 ≤ 188 := by omega
theorem la_putText_20 {x0 x1 : Int} (h0 : x0 ≤ x1 + 11) : x0 ≤ x1 + 90 := by omega
theorem la_putText_21 {x0 x1 : Int} (h0 : 0 ≤ x0) (h1 : x0 ≤ 100) (h2 : 0 ≤ x1) (h3 : x1 < 400) : 0 ≤ x1 ∧ x1 < 400 ∧ 0 ≤ x0 ∧ x0 ≤ 100 := by omega
theorem la_putText_22 {x0 : Int} (h0 : x0 = 6) (h1 : x0 = 5) : False := by omega
set_option maxHeartbeats 2000000 in
theorem f_putText : ∀ (p1 : Int) (p2 : Int) (S : sv_S), sm_ok S → sv_R p1 → sv_R p2 → (31 ≤ (S 1007 0) ∧ (S 1007 0) ≤ 400 ∧ sm_LN (S 4) 400 (S 1007 0) ∧ (p1 = 6 → 0 ≤ p2 ∧ p2 < 400) ∧ 0 ≤ (S 1011 0) ∧ (S 1011 0) ≤ 100) → (((p1 < (0 : Int) ∨ (6 : Int) < p1) → (31 ≤ (S 1007 0) ∧ (S 1007 0) ≤ 400 ∧ sm_LN (S 4) 400 (S 1007 0) ∧ 0 ≤ (29 : Int) ∧ (29 : Int) < 400 ∧ 0 ≤ (S 1011 0) ∧ (S 1011 0) ≤ 100) ∧ (∀ g2 : sv_S, ((S 1011 0) ≤ (g2 1011 0) ∧ (g2 1011 0) ≤ (S 1011 0) + 90) → ((S 1011 0) ≤ (g2 1011 0) ∧ (g2 1011 0) ≤ (S 1011 0) + 90 ∧ (p1 = 5 → 0 ≤ p2 → p2 ≤ 100 → (g2 1011 0) ≤ (S 1011 0) + 3)))) ∧ ((p1 = (0 : Int)) → (31 ≤ (S 1007 0) ∧ (S 1007 0) ≤ 400 ∧ sm_LN (S 4) 400 (S 1007 0) ∧ 0 ≤ (19 : Int) ∧ (19 : Int) < 400 ∧ 0 ≤ (S 1011 0) ∧ (S 1011 0) ≤ 100) ∧ (∀ g8 : sv_S, ((S 1011 0) ≤ (g8 1011 0) ∧ (g8 1011 0) ≤ (S 1011 0) + 90) → ((S 1011 0) ≤ (g8 1011 0) ∧ (g8 1011 0) ≤ (S 1011 0) + 90 ∧ (p1 = 5 → 0 ≤ p2 → p2 ≤ 100 → (g8 1011 0) ≤ (S 1011 0) + 3)))) ∧ ((p1 = (1 : Int)) → (31 ≤ (S 1007 0) ∧ (S 1007 0) ≤ 400 ∧ sm_LN (S 4) 400 (S 1007 0) ∧ 0 ≤ (25 : Int) ∧ (25 : Int) < 400 ∧ 0 ≤ (S 1011 0) ∧ (S 1011 0) ≤ 100) ∧ (∀ g14 : sv_S, ((S 1011 0) ≤ (g14 1011 0) ∧ (g14 1011 0) ≤ (S 1011 0) + 90) → ((S 1011 0) ≤ (g14 1011 0) ∧ (g14 1011 0) ≤ (S 1011 0) + 90 ∧ (p1 = 5 → 0 ≤ p2 → p2 ≤ 100 → (g14 1011 0) ≤ (S 1011 0) + 3)))) ∧ ((p1 = (2 : Int)) → (31 ≤ (S 1007 0) ∧ (S 1007 0) ≤ 400 ∧ sm_LN (S 4) 400 (S 1007 0) ∧ 0 ≤ (26 : Int) ∧ (26 : Int) < 400 ∧ 0 ≤ (S 1011 0) ∧ (S 1011 0) ≤ 100) ∧ (∀ g20 : sv_S, ((S 1011 0) ≤ (g20 1011 0) ∧ (g20 1011 0) ≤ (S 1011 0) + 90) → ((S 1011 0) ≤ (g20 1011 0) ∧ (g20 1011 0) ≤ (S 1011 0) + 90 ∧ (p1 = 5 → 0 ≤ p2 → p2 ≤ 100 → (g20 1011 0) ≤ (S 1011 0) + 3)))) ∧ ((p1 = (3 : Int)) → (31 ≤ (S 1007 0) ∧ (S 1007 0) ≤ 400 ∧ sm_LN (S 4) 400 (S 1007 0) ∧ 0 ≤ (27 : Int) ∧ (27 : Int) < 400 ∧ 0 ≤ (S 1011 0) ∧ (S 1011 0) ≤ 100) ∧ (∀ g26 : sv_S, ((S 1011 0) ≤ (g26 1011 0) ∧ (g26 1011 0) ≤ (S 1011 0) + 90) → ((S 1011 0) ≤ (g26 1011 0) ∧ (g26 1011 0) ≤ (S 1011 0) + 90 ∧ (p1 = 5 → 0 ≤ p2 → p2 ≤ 100 → (g26 1011 0) ≤ (S 1011 0) + 3)))) ∧ ((p1 = (4 : Int)) → (31 ≤ (S 1007 0) ∧ (S 1007 0) ≤ 400 ∧ sm_LN (S 4) 400 (S 1007 0) ∧ 0 ≤ (28 : Int) ∧ (28 : Int) < 400 ∧ 0 ≤ (S 1011 0) ∧ (S 1011 0) ≤ 100) ∧ (∀ g32 : sv_S, ((S 1011 0) ≤ (g32 1011 0) ∧ (g32 1011 0) ≤ (S 1011 0) + 90) → ((S 1011 0) ≤ (g32 1011 0) ∧ (g32 1011 0) ≤ (S 1011 0) + 90 ∧ (p1 = 5 → 0 ≤ p2 → p2 ≤ 100 → (g32 1011 0) ≤ (S 1011 0) + 3)))) ∧ ((p1 = (5 : Int)) → (0 ≤ (S 1011 0) ∧ (S 1011 0) ≤ 188) ∧ (∀ g38 : sv_S, (0 ≤ (g38 1011 0) ∧ (S 1011 0) ≤ (g38 1011 0) ∧ (g38 1011 0) ≤ (S 1011 0) + 11 ∧ (0 ≤ p2 → p2 ≤ 100 → (g38 1011 0) ≤ (S 1011 0) + 3)) → ((S 1011 0) ≤ (g38 1011 0) ∧ (g38 1011 0) ≤ (S 1011 0) + 90 ∧ (p1 = 5 → 0 ≤ p2 → p2 ≤ 100 → (g38 1011 0) ≤ (S 1011 0) + 3)))) ∧ ((p1 = (6 : Int)) → (31 ≤ (S 1007 0) ∧ (S 1007 0) ≤ 400 ∧ sm_LN (S 4) 400 (S 1007 0) ∧ 0 ≤ p2 ∧ p2 < 400 ∧ 0 ≤ (S 1011 0) ∧ (S 1011 0) ≤ 100) ∧ (∀ g44 : sv_S, ((S 1011 0) ≤ (g44 1011 0) ∧ (g44 1011 0) ≤ (S 1011 0) + 90) → ((S 1011 0) ≤ (g44 1011 0) ∧ (g44 1011 0) ≤ (S 1011 0) + 90 ∧ (p1 = 5 → 0 ≤ p2 → p2 ≤ 100 → (g44 1011 0) ≤ (S 1011 0) + 3))))) := by
  intro p1
  intro p2
  intro S
  intro h1_
  intro h2_
  intro h3_
  rintro ⟨h4_, ⟨h5_, ⟨h6_, ⟨h7_, ⟨h8_, h9_⟩⟩⟩⟩⟩
  refine ⟨?_, ?_⟩
  · skip
    intro h10_
    refine ⟨⟨h4_, ⟨h5_, ⟨h6_, (la_putText_0 h8_ h9_)⟩⟩⟩, ?_⟩
    intro g2
    rintro ⟨h11_, h12_⟩
    refine ⟨h11_, ?_⟩
    refine ⟨h12_, ?_⟩
    intro h13_
    have h14_ := (h10_.resolve_left (la_putText_2 h13_))
    intro h15_
    intro h16_
    exact ((la_putText_3 h13_ h14_)).elim
  refine ⟨?_, ?_⟩
  · skip
    intro h17_
    refine ⟨⟨h4_, ⟨h5_, ⟨h6_, (la_putText_5 h8_ h9_)⟩⟩⟩, ?_⟩
    intro g8
    rintro ⟨h18_, h19_⟩
    refine ⟨h18_, ?_⟩
    refine ⟨h19_, ?_⟩
    intro h20_
    intro h21_
    intro h22_
    exact ((la_putText_6 h17_ h20_)).elim
  refine ⟨?_, ?_⟩
  · skip
    intro h23_
    refine ⟨⟨h4_, ⟨h5_, ⟨h6_, (la_putText_8 h8_ h9_)⟩⟩⟩, ?_⟩
    intro g14
    rintro ⟨h24_, h25_⟩
    refine ⟨h24_, ?_⟩
    refine ⟨h25_, ?_⟩
    intro h26_
    intro h27_
    intro h28_
    exact ((la_putText_9 h23_ h26_)).elim
  refine ⟨?_, ?_⟩
  · skip
    intro h29_
    refine ⟨⟨h4_, ⟨h5_, ⟨h6_, (la_putText_11 h8_ h9_)⟩⟩⟩, ?_⟩
    intro g20
    rintro ⟨h30_, h31_⟩
    refine ⟨h30_, ?_⟩
    refine ⟨h31_, ?_⟩
    intro h32_
    intro h33_
    intro h34_
    exact ((la_putText_12 h29_ h32_)).elim
  refine ⟨?_, ?_⟩
  · skip
    intro h35_
    refine ⟨⟨h4_, ⟨h5_, ⟨h6_, (la_putText_14 h8_ h9_)⟩⟩⟩, ?_⟩
    intro g26
    rintro ⟨h36_, h37_⟩
    refine ⟨h36_, ?_⟩
    refine ⟨h37_, ?_⟩
    intro h38_
    intro h39_
    intro h40_
    exact ((la_putText_15 h35_ h38_)).elim
  refine ⟨?_, ?_⟩
  · skip
    intro h41_
    refine ⟨⟨h4_, ⟨h5_, ⟨h6_, (la_putText_17 h8_ h9_)⟩⟩⟩, ?_⟩
    intro g32
    rintro ⟨h42_, h43_⟩
    refine ⟨h42_, ?_⟩
    refine ⟨h43_, ?_⟩
    intro h44_
    intro h45_
    intro h46_
    exact ((la_putText_18 h41_ h44_)).elim
  refine ⟨?_, ?_⟩
  · skip
    intro h47_
    refine ⟨(la_putText_19 h8_ h9_), ?_⟩
    intro g38
    rintro ⟨h48_, ⟨h49_, ⟨h50_, h51_⟩⟩⟩
    refine ⟨h49_, ?_⟩
    refine ⟨(la_putText_20 h50_), ?_⟩
    intro h52_
    intro h53_
    have h54_ := (h51_ h53_)
    intro h55_
    have h56_ := (h54_ h55_)
    exact h56_
  intro h57_
  obtain ⟨h58_, h59_⟩ := (h7_ h57_)
  refine ⟨⟨h4_, ⟨h5_, ⟨h6_, (la_putText_21 h8_ h9_ h58_ h59_)⟩⟩⟩, ?_⟩
  intro g44
  rintro ⟨h60_, h61_⟩
  refine ⟨h60_, ?_⟩
  refine ⟨h61_, ?_⟩
  intro h62_
  intro h63_
  intro h64_
  exact ((la_putText_22 h57_ h62_)).elim
set_option maxRecDepth 8000 in
set_option maxHeartbeats 2000000 in
theorem t_putText : ∀ (p1 : Int) (p2 : Int) (S : sv_S), sm_ok S → sv_R p1 → sv_R p2 → (31 ≤ (S 1007 0) ∧ (S 1007 0) ≤ 400 ∧ sm_LN (S 4) 400 (S 1007 0) ∧ (p1 = 6 → 0 ≤ p2 ∧ p2 < 400) ∧ 0 ≤ (S 1011 0) ∧ (S 1011 0) ≤ 100) → sv_T sm_XS sm_cs sm_L sm_sh 2 (q_putText p1 p2 S) 125 0 (lv_args 0 [.ref 0, sv_I p1, sv_I p2]) [] S := by
  intro p1 p2 S hok hp1 hp2 hpre
  have h := f_putText p1 p2 S hok hp1 hp2 hpre
  have hM := sm_h125
  show sv_T sm_XS sm_cs sm_L sm_sh 2 (q_putText p1 p2 S) 125 0 [(0, .ref 0), (1, sv_I p1), (2, sv_I p2)] [] S
  refine sv_iload_n hM dX12_putText_0 rfl rfl ?_
  have hS := h
  have J0 : (p1 < (0 : Int) ∨ (6 : Int) < p1) → sv_T sm_XS sm_cs sm_L sm_sh 2 (q_putText p1 p2 S) 125 105 [(0, .ref 0), (1, sv_I p1), (2, sv_I p2)] [] S := by
    intro hc
    have h := hS.1 hc
    refine sv_aload_n hM dX12_putText_105 rfl rfl ?_
    refine sv_bipush (d := (29 : Int)) hM dX12_putText_106 rfl rfl ?_
    obtain ⟨o1, h⟩ := h
    refine sv_callV hM dX12_putText_108 sm_iv_797 (by decide) (sm_a0 _) rfl rfl (Nat.le_of_ble_eq_true rfl) sm_h124 (Nat.le_of_ble_eq_true rfl) (Nat.le_of_ble_eq_true rfl) (F' := 1) (Nat.le_of_ble_eq_true rfl) rfl (t_putString (29 : Int) S hok (⟨by decide, by decide⟩ : sv_R (29 : Int)) o1) (fun v S1 hq => ?_)
    obtain ⟨rfl, ok3, md4, hpo5⟩ := hq
    obtain ⟨g2, rfl⟩ : ∃ g, S1 = sv_sts S [5, 1011] g := ⟨_, md4.eq⟩
    show sv_T sm_XS sm_cs sm_L sm_sh 2 (q_putText p1 p2 S) 125 111 [(0, .ref 0), (1, sv_I p1), (2, sv_I p2)] [] (sv_sts S [5, 1011] g2)
    have md6 : sv_mod [5, 1011] S (sv_sts S [5, 1011] g2) := sv_mod.sts sv_mod.rf (by decide)
    have h := h g2 hpo5
    exact sv_vret hM dX12_putText_111 rfl ⟨rfl, ok3, md6, h⟩
  have J1 : (p1 = (0 : Int)) → sv_T sm_XS sm_cs sm_L sm_sh 2 (q_putText p1 p2 S) 125 44 [(0, .ref 0), (1, sv_I p1), (2, sv_I p2)] [] S := by
    intro hc
    have h := hS.2.1 hc
    refine sv_aload_n hM dX12_putText_44 rfl rfl ?_
    refine sv_bipush (d := (19 : Int)) hM dX12_putText_45 rfl rfl ?_
    obtain ⟨o7, h⟩ := h
    refine sv_callV hM dX12_putText_47 sm_iv_797 (by decide) (sm_a0 _) rfl rfl (Nat.le_of_ble_eq_true rfl) sm_h124 (Nat.le_of_ble_eq_true rfl) (Nat.le_of_ble_eq_true rfl) (F' := 1) (Nat.le_of_ble_eq_true rfl) rfl (t_putString (19 : Int) S hok (⟨by decide, by decide⟩ : sv_R (19 : Int)) o7) (fun v S1 hq => ?_)
    obtain ⟨rfl, ok9, md10, hpo11⟩ := hq
    obtain ⟨g8, rfl⟩ : ∃ g, S1 = sv_sts S [5, 1011] g := ⟨_, md10.eq⟩
    show sv_T sm_XS sm_cs sm_L sm_sh 2 (q_putText p1 p2 S) 125 50 [(0, .ref 0), (1, sv_I p1), (2, sv_I p2)] [] (sv_sts S [5, 1011] g8)
    have md12 : sv_mod [5, 1011] S (sv_sts S [5, 1011] g8) := sv_mod.sts sv_mod.rf (by decide)
    have h := h g8 hpo11
    refine sv_goto hM dX12_putText_50 (pc' := 111) rfl ?_
    exact sv_vret hM dX12_putText_111 rfl ⟨rfl, ok9, md12, h⟩
  have J2 : (p1 = (1 : Int)) → sv_T sm_XS sm_cs sm_L sm_sh 2 (q_putText p1 p2 S) 125 53 [(0, .ref 0), (1, sv_I p1), (2, sv_I p2)] [] S := by
    intro hc
    have h := hS.2.2.1 hc
    refine sv_aload_n hM dX12_putText_53 rfl rfl ?_
    refine sv_bipush (d := (25 : Int)) hM dX12_putText_54 rfl rfl ?_
    obtain ⟨o13, h⟩ := h
    refine sv_callV hM dX12_putText_56 sm_iv_797 (by decide) (sm_a0 _) rfl rfl (Nat.le_of_ble_eq_true rfl) sm_h124 (Nat.le_of_ble_eq_true rfl) (Nat.le_of_ble_eq_true rfl) (F' := 1) (Nat.le_of_ble_eq_true rfl) rfl (t_putString (25 : Int) S hok (⟨by decide, by decide⟩ : sv_R (25 : Int)) o13) (fun v S1 hq => ?_)
    obtain ⟨rfl, ok15, md16, hpo17⟩ := hq
    obtain ⟨g14, rfl⟩ : ∃ g, S1 = sv_sts S [5, 1011] g := ⟨_, md16.eq⟩
    show sv_T sm_XS sm_cs sm_L sm_sh 2 (q_putText p1 p2 S) 125 59 [(0, .ref 0), (1, sv_I p1), (2, sv_I p2)] [] (sv_sts S [5, 1011] g14)
    have md18 : sv_mod [5, 1011] S (sv_sts S [5, 1011] g14) := sv_mod.sts sv_mod.rf (by decide)
    have h := h g14 hpo17
    refine sv_goto hM dX12_putText_59 (pc' := 111) rfl ?_
    exact sv_vret hM dX12_putText_111 rfl ⟨rfl, ok15, md18, h⟩
  have J3 : (p1 = (2 : Int)) → sv_T sm_XS sm_cs sm_L sm_sh 2 (q_putText p1 p2 S) 125 62 [(0, .ref 0), (1, sv_I p1), (2, sv_I p2)] [] S := by
    intro hc
    have h := hS.2.2.2.1 hc
    refine sv_aload_n hM dX12_putText_62 rfl rfl ?_
    refine sv_bipush (d := (26 : Int)) hM dX12_putText_63 rfl rfl ?_
    obtain ⟨o19, h⟩ := h
    refine sv_callV hM dX12_putText_65 sm_iv_797 (by decide) (sm_a0 _) rfl rfl (Nat.le_of_ble_eq_true rfl) sm_h124 (Nat.le_of_ble_eq_true rfl) (Nat.le_of_ble_eq_true rfl) (F' := 1) (Nat.le_of_ble_eq_true rfl) rfl (t_putString (26 : Int) S hok (⟨by decide, by decide⟩ : sv_R (26 : Int)) o19) (fun v S1 hq => ?_)
    obtain ⟨rfl, ok21, md22, hpo23⟩ := hq
    obtain ⟨g20, rfl⟩ : ∃ g, S1 = sv_sts S [5, 1011] g := ⟨_, md22.eq⟩
    show sv_T sm_XS sm_cs sm_L sm_sh 2 (q_putText p1 p2 S) 125 68 [(0, .ref 0), (1, sv_I p1), (2, sv_I p2)] [] (sv_sts S [5, 1011] g20)
    have md24 : sv_mod [5, 1011] S (sv_sts S [5, 1011] g20) := sv_mod.sts sv_mod.rf (by decide)
    have h := h g20 hpo23
    refine sv_goto hM dX12_putText_68 (pc' := 111) rfl ?_
    exact sv_vret hM dX12_putText_111 rfl ⟨rfl, ok21, md24, h⟩
  have J4 : (p1 = (3 : Int)) → sv_T sm_XS sm_cs sm_L sm_sh 2 (q_putText p1 p2 S) 125 71 [(0, .ref 0), (1, sv_I p1), (2, sv_I p2)] [] S := by
    intro hc
    have h := hS.2.2.2.2.1 hc
    refine sv_aload_n hM dX12_putText_71 rfl rfl ?_
    refine sv_bipush (d := (27 : Int)) hM dX12_putText_72 rfl rfl ?_
    obtain ⟨o25, h⟩ := h
    refine sv_callV hM dX12_putText_74 sm_iv_797 (by decide) (sm_a0 _) rfl rfl (Nat.le_of_ble_eq_true rfl) sm_h124 (Nat.le_of_ble_eq_true rfl) (Nat.le_of_ble_eq_true rfl) (F' := 1) (Nat.le_of_ble_eq_true rfl) rfl (t_putString (27 : Int) S hok (⟨by decide, by decide⟩ : sv_R (27 : Int)) o25) (fun v S1 hq => ?_)
    obtain ⟨rfl, ok27, md28, hpo29⟩ := hq
    obtain ⟨g26, rfl⟩ : ∃ g, S1 = sv_sts S [5, 1011] g := ⟨_, md28.eq⟩
    show sv_T sm_XS sm_cs sm_L sm_sh 2 (q_putText p1 p2 S) 125 77 [(0, .ref 0), (1, sv_I p1), (2, sv_I p2)] [] (sv_sts S [5, 1011] g26)
    have md30 : sv_mod [5, 1011] S (sv_sts S [5, 1011] g26) := sv_mod.sts sv_mod.rf (by decide)
    have h := h g26 hpo29
    refine sv_goto hM dX12_putText_77 (pc' := 111) rfl ?_
    exact sv_vret hM dX12_putText_111 rfl ⟨rfl, ok27, md30, h⟩
  have J5 : (p1 = (4 : Int)) → sv_T sm_XS sm_cs sm_L sm_sh 2 (q_putText p1 p2 S) 125 80 [(0, .ref 0), (1, sv_I p1), (2, sv_I p2)] [] S := by
    intro hc
    have h := hS.2.2.2.2.2.1 hc
    refine sv_aload_n hM dX12_putText_80 rfl rfl ?_
    refine sv_bipush (d := (28 : Int)) hM dX12_putText_81 rfl rfl ?_
    obtain ⟨o31, h⟩ := h
    refine sv_callV hM dX12_putText_83 sm_iv_797 (by decide) (sm_a0 _) rfl rfl (Nat.le_of_ble_eq_true rfl) sm_h124 (Nat.le_of_ble_eq_true rfl) (Nat.le_of_ble_eq_true rfl) (F' := 1) (Nat.le_of_ble_eq_true rfl) rfl (t_putString (28 : Int) S hok (⟨by decide, by decide⟩ : sv_R (28 : Int)) o31) (fun v S1 hq => ?_)
    obtain ⟨rfl, ok33, md34, hpo35⟩ := hq
    obtain ⟨g32, rfl⟩ : ∃ g, S1 = sv_sts S [5, 1011] g := ⟨_, md34.eq⟩
    show sv_T sm_XS sm_cs sm_L sm_sh 2 (q_putText p1 p2 S) 125 86 [(0, .ref 0), (1, sv_I p1), (2, sv_I p2)] [] (sv_sts S [5, 1011] g32)
    have md36 : sv_mod [5, 1011] S (sv_sts S [5, 1011] g32) := sv_mod.sts sv_mod.rf (by decide)
    have h := h g32 hpo35
    refine sv_goto hM dX12_putText_86 (pc' := 111) rfl ?_
    exact sv_vret hM dX12_putText_111 rfl ⟨rfl, ok33, md36, h⟩
  have J6 : (p1 = (5 : Int)) → sv_T sm_XS sm_cs sm_L sm_sh 2 (q_putText p1 p2 S) 125 89 [(0, .ref 0), (1, sv_I p1), (2, sv_I p2)] [] S := by
    intro hc
    have h := hS.2.2.2.2.2.2.1 hc
    refine sv_aload_n hM dX12_putText_89 rfl rfl ?_
    refine sv_iload_n hM dX12_putText_90 rfl rfl ?_
    obtain ⟨o37, h⟩ := h
    refine sv_callV hM dX12_putText_91 sm_iv_410 (by decide) (sm_a0 _) rfl rfl (Nat.le_of_ble_eq_true rfl) sm_h31 (Nat.le_of_ble_eq_true rfl) (Nat.le_of_ble_eq_true rfl) (F' := 1) (Nat.le_of_ble_eq_true rfl) rfl (t_putNumber p2 S hok hp2 o37) (fun v S1 hq => ?_)
    obtain ⟨rfl, ok39, md40, hpo41⟩ := hq
    obtain ⟨g38, rfl⟩ : ∃ g, S1 = sv_sts S [5, 1011] g := ⟨_, md40.eq⟩
    show sv_T sm_XS sm_cs sm_L sm_sh 2 (q_putText p1 p2 S) 125 94 [(0, .ref 0), (1, sv_I p1), (2, sv_I p2)] [] (sv_sts S [5, 1011] g38)
    have md42 : sv_mod [5, 1011] S (sv_sts S [5, 1011] g38) := sv_mod.sts sv_mod.rf (by decide)
    have h := h g38 hpo41
    refine sv_goto hM dX12_putText_94 (pc' := 111) rfl ?_
    exact sv_vret hM dX12_putText_111 rfl ⟨rfl, ok39, md42, h⟩
  have J7 : (p1 = (6 : Int)) → sv_T sm_XS sm_cs sm_L sm_sh 2 (q_putText p1 p2 S) 125 97 [(0, .ref 0), (1, sv_I p1), (2, sv_I p2)] [] S := by
    intro hc
    have h := hS.2.2.2.2.2.2.2 hc
    refine sv_aload_n hM dX12_putText_97 rfl rfl ?_
    refine sv_iload_n hM dX12_putText_98 rfl rfl ?_
    obtain ⟨o43, h⟩ := h
    refine sv_callV hM dX12_putText_99 sm_iv_797 (by decide) (sm_a0 _) rfl rfl (Nat.le_of_ble_eq_true rfl) sm_h124 (Nat.le_of_ble_eq_true rfl) (Nat.le_of_ble_eq_true rfl) (F' := 1) (Nat.le_of_ble_eq_true rfl) rfl (t_putString p2 S hok hp2 o43) (fun v S1 hq => ?_)
    obtain ⟨rfl, ok45, md46, hpo47⟩ := hq
    obtain ⟨g44, rfl⟩ : ∃ g, S1 = sv_sts S [5, 1011] g := ⟨_, md46.eq⟩
    show sv_T sm_XS sm_cs sm_L sm_sh 2 (q_putText p1 p2 S) 125 102 [(0, .ref 0), (1, sv_I p1), (2, sv_I p2)] [] (sv_sts S [5, 1011] g44)
    have md48 : sv_mod [5, 1011] S (sv_sts S [5, 1011] g44) := sv_mod.sts sv_mod.rf (by decide)
    have h := h g44 hpo47
    refine sv_goto hM dX12_putText_102 (pc' := 111) rfl ?_
    exact sv_vret hM dX12_putText_111 rfl ⟨rfl, ok45, md48, h⟩
  refine sv_tsw hM dX12_putText_1 hp1 (t := 105) rfl (fun hc => J0 (by rcases hc with hc | hc; exact Or.inl hc; exact Or.inr hc)) (fun hc => ?_)
  have hv : p1 = (0 : Int) ∨ p1 = (1 : Int) ∨ p1 = (2 : Int) ∨ p1 = (3 : Int) ∨ p1 = (4 : Int) ∨ p1 = (5 : Int) ∨ p1 = (6 : Int) := by omega
  rcases hv with hv | hv | hv | hv | hv | hv | hv
  · exact ⟨43, 44, by rw [hv]; rfl, rfl, J1 (by omega)⟩
  · exact ⟨52, 53, by rw [hv]; rfl, rfl, J2 (by omega)⟩
  · exact ⟨61, 62, by rw [hv]; rfl, rfl, J3 (by omega)⟩
  · exact ⟨70, 71, by rw [hv]; rfl, rfl, J4 (by omega)⟩
  · exact ⟨79, 80, by rw [hv]; rfl, rfl, J5 (by omega)⟩
  · exact ⟨88, 89, by rw [hv]; rfl, rfl, J6 (by omega)⟩
  · exact ⟨96, 97, by rw [hv]; rfl, rfl, J7 (by omega)⟩
def q_textOf (p1 : Int) (p2 : Int) (S : sv_S) : Option Value → sv_S → Prop := fun v S' => ∃ r : Int, v = some (sv_I r) ∧ sv_R r ∧ sm_ok S' ∧ sv_mod [5, 1011, 3, 4, 1007, 1075] S S' ∧ (0 ≤ r ∧ r < (S' 1007 0) ∧ (p1 = 5 → 0 ≤ p2 → p2 ≤ 100 → (S' 1075 0) = 0 → (S' 4 r) ≤ 3) ∧ (S 1007 0) ≤ (S' 1007 0) ∧ (S' 1007 0) ≤ 400 ∧ sm_LN (S' 4) 400 (S' 1007 0) ∧ ((S 1075 0) = 1 → (S' 1075 0) = 1))
theorem la_textOf_0 {x0 x1 : Int} (h0 : ¬ x0 = 6) : (x0 = 6 → 0 ≤ x1 ∧ x1 < 400) ∧ (0 : Int) ≤ 0 ∧ (0 : Int) ≤ 100 := by omega
theorem la_textOf_1 {x0 : Int} (h0 : 0 ≤ x0) (h1 : x0 ≤ 0 + 90) : 0 ≤ x0 ∧ x0 ≤ 200 := by omega
theorem la_textOf_2 {x0 x1 x2 x3 x4 x5 : Int} (h0 : x0 = 5 → 0 ≤ x1 → x1 ≤ 100 → x2 ≤ 0 + 3) (h1 : x3 = 0 → x4 = x5) (h2 : x5 ≤ x2) : x0 = 5 → 0 ≤ x1 → x1 ≤ 100 → x3 = 0 → x4 ≤ 3 := by omega
theorem la_textOf_3 {x0 : Int} (h0 : x0 = 1) : ¬ x0 = 0 := by omega
theorem la_textOf_4 {x0 : Int} (h0 : ¬ ¬ x0 = 6) : x0 = 6 := by omega
theorem la_textOf_5 {x0 x1 x2 x3 : Int} (h0 : ¬ ¬ x0 = 6) : x0 = 5 → 0 ≤ x1 → x1 ≤ 100 → x2 = 0 → x3 ≤ 3 := by omega
theorem la_textOf_6 {x0 : Int} : x0 ≤ x0 := by omega
set_option maxHeartbeats 2000000 in
theorem f_textOf : ∀ (p1 : Int) (p2 : Int) (S : sv_S), sm_ok S → sv_R p1 → sv_R p2 → (31 ≤ (S 1007 0) ∧ (S 1007 0) ≤ 400 ∧ sm_LN (S 4) 400 (S 1007 0) ∧ (p1 = 6 → 0 ≤ p2 ∧ p2 < (S 1007 0))) → (((¬ p1 = (6 : Int)) → (31 ≤ (S 1007 0) ∧ (S 1007 0) ≤ 400 ∧ sm_LN (S 4) 400 (S 1007 0) ∧ (p1 = 6 → 0 ≤ p2 ∧ p2 < 400) ∧ 0 ≤ (0 : Int) ∧ (0 : Int) ≤ 100) ∧ (∀ g4 : sv_S, ((0 : Int) ≤ (g4 1011 0) ∧ (g4 1011 0) ≤ (0 : Int) + 90 ∧ (p1 = 5 → 0 ≤ p2 → p2 ≤ 100 → (g4 1011 0) ≤ (0 : Int) + 3)) → (31 ≤ (S 1007 0) ∧ (S 1007 0) ≤ 400 ∧ sm_LN (S 4) 400 (S 1007 0) ∧ 0 ≤ (g4 1011 0) ∧ (g4 1011 0) ≤ 200) ∧ (∀ r14 : Int, sv_R r14 → ∀ g10 : sv_S, (0 ≤ r14 ∧ r14 < (g10 1007 0) ∧ ((g10 1075 0) = 0 → (g10 4 r14) = (g10 1011 0)) ∧ (g10 1011 0) ≤ (g4 1011 0) ∧ (S 1007 0) ≤ (g10 1007 0) ∧ (g10 1007 0) ≤ 400 ∧ sm_LN (g10 4) 400 (g10 1007 0) ∧ ((S 1075 0) = 1 → (g10 1075 0) = 1)) → (0 ≤ r14 ∧ r14 < (g10 1007 0) ∧ (p1 = 5 → 0 ≤ p2 → p2 ≤ 100 → (g10 1075 0) = 0 → (g10 4 r14) ≤ 3) ∧ (S 1007 0) ≤ (g10 1007 0) ∧ (g10 1007 0) ≤ 400 ∧ sm_LN (g10 4) 400 (g10 1007 0) ∧ ((S 1075 0) = 1 → (g10 1075 0) = 1))))) ∧ ((¬ (¬ p1 = (6 : Int))) → (0 ≤ p2 ∧ p2 < (S 1007 0) ∧ (p1 = 5 → 0 ≤ p2 → p2 ≤ 100 → (S 1075 0) = 0 → (S 4 p2) ≤ 3) ∧ (S 1007 0) ≤ (S 1007 0) ∧ (S 1007 0) ≤ 400 ∧ sm_LN (S 4) 400 (S 1007 0) ∧ ((S 1075 0) = 1 → (S 1075 0) = 1)))) := by
  intro p1
  intro p2
  intro S
  intro h1_
  intro h2_
  intro h3_
  rintro ⟨h4_, ⟨h5_, ⟨h6_, h7_⟩⟩⟩
  refine ⟨?_, ?_⟩
  · skip
    intro h8_
    refine ⟨⟨h4_, ⟨h5_, ⟨h6_, (la_textOf_0 h8_)⟩⟩⟩, ?_⟩
    intro g4
    rintro ⟨h9_, ⟨h10_, h11_⟩⟩
    refine ⟨⟨h4_, ⟨h5_, ⟨h6_, (la_textOf_1 h9_ h10_)⟩⟩⟩, ?_⟩
    intro r14
    intro h12_
    intro g10
    rintro ⟨h13_, ⟨h14_, ⟨h15_, ⟨h16_, ⟨h17_, ⟨h18_, ⟨h19_, h20_⟩⟩⟩⟩⟩⟩⟩
    refine ⟨h13_, ?_⟩
    refine ⟨h14_, ?_⟩
    refine ⟨(la_textOf_2 h11_ h15_ h16_), ?_⟩
    refine ⟨h17_, ?_⟩
    refine ⟨h18_, ?_⟩
    refine ⟨h19_, ?_⟩
    intro h21_
    have h22_ := (h20_ h21_)
    exact h22_
  intro h23_
  obtain ⟨h24_, h25_⟩ := (h7_ (la_textOf_4 h23_))
  refine ⟨h24_, ?_⟩
  refine ⟨h25_, ?_⟩
  refine ⟨(la_textOf_5 h23_), ?_⟩
  refine ⟨la_textOf_6, ?_⟩
  refine ⟨h5_, ?_⟩
  refine ⟨h6_, ?_⟩
  intro h26_
  exact h26_
set_option maxRecDepth 8000 in
set_option maxHeartbeats 2000000 in
theorem t_textOf : ∀ (p1 : Int) (p2 : Int) (S : sv_S), sm_ok S → sv_R p1 → sv_R p2 → (31 ≤ (S 1007 0) ∧ (S 1007 0) ≤ 400 ∧ sm_LN (S 4) 400 (S 1007 0) ∧ (p1 = 6 → 0 ≤ p2 ∧ p2 < (S 1007 0))) → sv_T sm_XS sm_cs sm_L sm_sh 3 (q_textOf p1 p2 S) 126 0 (lv_args 0 [.ref 0, sv_I p1, sv_I p2]) [] S := by
  intro p1 p2 S hok hp1 hp2 hpre
  have h := f_textOf p1 p2 S hok hp1 hp2 hpre
  have hM := sm_h126
  show sv_T sm_XS sm_cs sm_L sm_sh 3 (q_textOf p1 p2 S) 126 0 [(0, .ref 0), (1, sv_I p1), (2, sv_I p2)] [] S
  refine sv_iload_n hM dX12_textOf_0 rfl rfl ?_
  refine sv_bipush (d := (6 : Int)) hM dX12_textOf_1 rfl rfl ?_
  refine sv_icmp_ne hM dX12_textOf_3 hp1 (⟨by decide, by decide⟩ : sv_R (6 : Int)) (t := 8) rfl rfl (fun hc => ?_) (fun hc => ?_)
  · have h := h.1 (hc)
    refine sv_aload_n hM dX12_textOf_8 rfl rfl ?_
    refine sv_iconst (d := (0 : Int)) hM dX12_textOf_9 rfl rfl ?_
    refine sv_putI sm_X hM dX12_textOf_10 sm_fp_299 (sm_a0 _) sm_q11 (Or.inl rfl) rfl rfl rfl rfl ?_
    have ok1 : sm_ok (sv_up S 1011 0 (0 : Int)) := sm_upI hok sm_r1011 (⟨by decide, by decide⟩ : sv_R (0 : Int))
    have md2 : sv_mod [5, 1011, 3, 4, 1007, 1075] S (sv_up S 1011 0 (0 : Int)) := sv_mod.up sv_mod.rf (by decide)
    refine sv_aload_n hM dX12_textOf_13 rfl rfl ?_
    refine sv_iload_n hM dX12_textOf_14 rfl rfl ?_
    refine sv_iload_n hM dX12_textOf_15 rfl rfl ?_
    obtain ⟨o3, h⟩ := h
    refine sv_callV hM dX12_textOf_16 sm_iv_800 (by decide) (sm_a0 _) rfl rfl (Nat.le_of_ble_eq_true rfl) sm_h125 (Nat.le_of_ble_eq_true rfl) (Nat.le_of_ble_eq_true rfl) (F' := 2) (Nat.le_of_ble_eq_true rfl) rfl (t_putText p1 p2 (sv_up S 1011 0 (0 : Int)) ok1 hp1 hp2 o3) (fun v S1 hq => ?_)
    obtain ⟨rfl, ok5, md6, hpo7⟩ := hq
    obtain ⟨g4, rfl⟩ : ∃ g, S1 = sv_sts (sv_up S 1011 0 (0 : Int)) [5, 1011] g := ⟨_, md6.eq⟩
    show sv_T sm_XS sm_cs sm_L sm_sh 3 (q_textOf p1 p2 S) 126 19 [(0, .ref 0), (1, sv_I p1), (2, sv_I p2)] [] (sv_sts (sv_up S 1011 0 (0 : Int)) [5, 1011] g4)
    have md8 : sv_mod [5, 1011, 3, 4, 1007, 1075] S (sv_sts (sv_up S 1011 0 (0 : Int)) [5, 1011] g4) := sv_mod.sts md2 (by decide)
    have h := h g4 hpo7
    refine sv_aload_n hM dX12_textOf_19 rfl rfl ?_
    obtain ⟨o9, h⟩ := h
    refine sv_callV hM dX12_textOf_20 sm_iv_803 (by decide) (sm_a0 _) rfl rfl (Nat.le_of_ble_eq_true rfl) sm_h123 (Nat.le_of_ble_eq_true rfl) (Nat.le_of_ble_eq_true rfl) (F' := 1) (Nat.le_of_ble_eq_true rfl) rfl (t_made  (sv_sts (sv_up S 1011 0 (0 : Int)) [5, 1011] g4) ok5 o9) (fun v S1 hq => ?_)
    obtain ⟨r14, rfl, hr14, ok11, md12, hpo13⟩ := hq
    obtain ⟨g10, rfl⟩ : ∃ g, S1 = sv_sts (sv_sts (sv_up S 1011 0 (0 : Int)) [5, 1011] g4) [1011, 3, 4, 1007, 1075] g := ⟨_, md12.eq⟩
    show sv_T sm_XS sm_cs sm_L sm_sh 3 (q_textOf p1 p2 S) 126 23 [(0, .ref 0), (1, sv_I p1), (2, sv_I p2)] [sv_I r14] (sv_sts (sv_sts (sv_up S 1011 0 (0 : Int)) [5, 1011] g4) [1011, 3, 4, 1007, 1075] g10)
    have md15 : sv_mod [5, 1011, 3, 4, 1007, 1075] S (sv_sts (sv_sts (sv_up S 1011 0 (0 : Int)) [5, 1011] g4) [1011, 3, 4, 1007, 1075] g10) := sv_mod.sts md8 (by decide)
    have h := h r14 hr14 g10 hpo13
    exact sv_iret hM dX12_textOf_23 rfl rfl ⟨r14, rfl, hr14, ok11, md15, h⟩
  · have h := h.2 (hc)
    refine sv_iload_n hM dX12_textOf_6 rfl rfl ?_
    exact sv_iret hM dX12_textOf_7 rfl rfl ⟨p2, rfl, hp2, hok, sv_mod.rf, h⟩
