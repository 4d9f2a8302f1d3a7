theorem dX12_findText_0 : decode cX12_findText 0 = .ok (.iconst 0, 1) := by decide +kernel
theorem dX12_findText_1 : decode cX12_findText 1 = .ok (.istore_n 1, 1) := by decide +kernel
theorem dX12_findText_2 : decode cX12_findText 2 = .ok (.iload_n 1, 1) := by decide +kernel
theorem dX12_findText_3 : decode cX12_findText 3 = .ok (.aload_n 0, 1) := by decide +kernel
theorem dX12_findText_4 : decode cX12_findText 4 = .ok (.getfield 296, 3) := by decide +kernel
theorem dX12_findText_7 : decode cX12_findText 7 = .ok (.if_icmp .ge 80, 3) := by decide +kernel
theorem dX12_findText_10 : decode cX12_findText 10 = .ok (.aload_n 0, 1) := by decide +kernel
theorem dX12_findText_11 : decode cX12_findText 11 = .ok (.getfield 20, 3) := by decide +kernel
theorem dX12_findText_14 : decode cX12_findText 14 = .ok (.iload_n 1, 1) := by decide +kernel
theorem dX12_findText_15 : decode cX12_findText 15 = .ok (.iaload, 1) := by decide +kernel
theorem dX12_findText_16 : decode cX12_findText 16 = .ok (.aload_n 0, 1) := by decide +kernel
theorem dX12_findText_17 : decode cX12_findText 17 = .ok (.getfield 299, 3) := by decide +kernel
theorem dX12_findText_20 : decode cX12_findText 20 = .ok (.if_icmp .ne 7, 3) := by decide +kernel
theorem dX12_findText_23 : decode cX12_findText 23 = .ok (.iconst 1, 1) := by decide +kernel
theorem dX12_findText_24 : decode cX12_findText 24 = .ok (.goto 4, 3) := by decide +kernel
theorem dX12_findText_27 : decode cX12_findText 27 = .ok (.iconst 0, 1) := by decide +kernel
theorem dX12_findText_28 : decode cX12_findText 28 = .ok (.istore_n 2, 1) := by decide +kernel
theorem dX12_findText_29 : decode cX12_findText 29 = .ok (.iconst 0, 1) := by decide +kernel
theorem dX12_findText_30 : decode cX12_findText 30 = .ok (.istore_n 3, 1) := by decide +kernel
theorem dX12_findText_31 : decode cX12_findText 31 = .ok (.iload_n 3, 1) := by decide +kernel
theorem dX12_findText_32 : decode cX12_findText 32 = .ok (.aload_n 0, 1) := by decide +kernel
theorem dX12_findText_33 : decode cX12_findText 33 = .ok (.getfield 299, 3) := by decide +kernel
theorem dX12_findText_36 : decode cX12_findText 36 = .ok (.if_icmp .ge 39, 3) := by decide +kernel
theorem dX12_findText_39 : decode cX12_findText 39 = .ok (.iload_n 2, 1) := by decide +kernel
theorem dX12_findText_40 : decode cX12_findText 40 = .ok (.ifCond .eq 35, 3) := by decide +kernel
theorem dX12_findText_43 : decode cX12_findText 43 = .ok (.aload_n 0, 1) := by decide +kernel
theorem dX12_findText_44 : decode cX12_findText 44 = .ok (.getfield 16, 3) := by decide +kernel
theorem dX12_findText_47 : decode cX12_findText 47 = .ok (.bipush 60, 2) := by decide +kernel
theorem dX12_findText_49 : decode cX12_findText 49 = .ok (.iload_n 1, 1) := by decide +kernel
theorem dX12_findText_50 : decode cX12_findText 50 = .ok (.imul, 1) := by decide +kernel
theorem dX12_findText_51 : decode cX12_findText 51 = .ok (.iload_n 3, 1) := by decide +kernel
theorem dX12_findText_52 : decode cX12_findText 52 = .ok (.iadd, 1) := by decide +kernel
theorem dX12_findText_53 : decode cX12_findText 53 = .ok (.caload, 1) := by decide +kernel
theorem dX12_findText_54 : decode cX12_findText 54 = .ok (.aload_n 0, 1) := by decide +kernel
theorem dX12_findText_55 : decode cX12_findText 55 = .ok (.getfield 24, 3) := by decide +kernel
theorem dX12_findText_58 : decode cX12_findText 58 = .ok (.iload_n 3, 1) := by decide +kernel
theorem dX12_findText_59 : decode cX12_findText 59 = .ok (.caload, 1) := by decide +kernel
theorem dX12_findText_60 : decode cX12_findText 60 = .ok (.if_icmp .ne 7, 3) := by decide +kernel
theorem dX12_findText_63 : decode cX12_findText 63 = .ok (.iconst 1, 1) := by decide +kernel
theorem dX12_findText_64 : decode cX12_findText 64 = .ok (.goto 4, 3) := by decide +kernel
theorem dX12_findText_67 : decode cX12_findText 67 = .ok (.iconst 0, 1) := by decide +kernel
theorem dX12_findText_68 : decode cX12_findText 68 = .ok (.istore_n 2, 1) := by decide +kernel
theorem dX12_findText_69 : decode cX12_findText 69 = .ok (.iinc 3 1, 3) := by decide +kernel
theorem dX12_findText_72 : decode cX12_findText 72 = .ok (.goto (-41), 3) := by decide +kernel
theorem dX12_findText_75 : decode cX12_findText 75 = .ok (.iload_n 2, 1) := by decide +kernel
theorem dX12_findText_76 : decode cX12_findText 76 = .ok (.ifCond .eq 5, 3) := by decide +kernel
theorem dX12_findText_79 : decode cX12_findText 79 = .ok (.iload_n 1, 1) := by decide +kernel
theorem dX12_findText_80 : decode cX12_findText 80 = .ok (.ireturn, 1) := by decide +kernel
theorem dX12_findText_81 : decode cX12_findText 81 = .ok (.iinc 1 1, 3) := by decide +kernel
theorem dX12_findText_84 : decode cX12_findText 84 = .ok (.goto (-82), 3) := by decide +kernel
theorem dX12_findText_87 : decode cX12_findText 87 = .ok (.iconst (-1), 1) := by decide +kernel
theorem dX12_findText_88 : decode cX12_findText 88 = .ok (.ireturn, 1) := by decide +kernel
theorem dX12_addText_0 : decode cX12_addText 0 = .ok (.iconst 0, 1) := by decide +kernel
theorem dX12_addText_1 : decode cX12_addText 1 = .ok (.istore_n 1, 1) := by decide +kernel
theorem dX12_addText_2 : decode cX12_addText 2 = .ok (.iload_n 1, 1) := by decide +kernel
theorem dX12_addText_3 : decode cX12_addText 3 = .ok (.aload_n 0, 1) := by decide +kernel
theorem dX12_addText_4 : decode cX12_addText 4 = .ok (.getfield 299, 3) := by decide +kernel
theorem dX12_addText_7 : decode cX12_addText 7 = .ok (.if_icmp .ge 29, 3) := by decide +kernel
theorem dX12_addText_10 : decode cX12_addText 10 = .ok (.aload_n 0, 1) := by decide +kernel
theorem dX12_addText_11 : decode cX12_addText 11 = .ok (.getfield 16, 3) := by decide +kernel
theorem dX12_addText_14 : decode cX12_addText 14 = .ok (.bipush 60, 2) := by decide +kernel
theorem dX12_addText_16 : decode cX12_addText 16 = .ok (.aload_n 0, 1) := by decide +kernel
theorem dX12_addText_17 : decode cX12_addText 17 = .ok (.getfield 296, 3) := by decide +kernel
theorem dX12_addText_20 : decode cX12_addText 20 = .ok (.imul, 1) := by decide +kernel
theorem dX12_addText_21 : decode cX12_addText 21 = .ok (.iload_n 1, 1) := by decide +kernel
theorem dX12_addText_22 : decode cX12_addText 22 = .ok (.iadd, 1) := by decide +kernel
theorem dX12_addText_23 : decode cX12_addText 23 = .ok (.aload_n 0, 1) := by decide +kernel
theorem dX12_addText_24 : decode cX12_addText 24 = .ok (.getfield 24, 3) := by decide +kernel
theorem dX12_addText_27 : decode cX12_addText 27 = .ok (.iload_n 1, 1) := by decide +kernel
theorem dX12_addText_28 : decode cX12_addText 28 = .ok (.caload, 1) := by decide +kernel
theorem dX12_addText_29 : decode cX12_addText 29 = .ok (.castore, 1) := by decide +kernel
theorem dX12_addText_30 : decode cX12_addText 30 = .ok (.iinc 1 1, 3) := by decide +kernel
theorem dX12_addText_33 : decode cX12_addText 33 = .ok (.goto (-31), 3) := by decide +kernel
theorem dX12_addText_36 : decode cX12_addText 36 = .ok (.aload_n 0, 1) := by decide +kernel
theorem dX12_addText_37 : decode cX12_addText 37 = .ok (.getfield 20, 3) := by decide +kernel
theorem dX12_addText_40 : decode cX12_addText 40 = .ok (.aload_n 0, 1) := by decide +kernel
theorem dX12_addText_41 : decode cX12_addText 41 = .ok (.getfield 296, 3) := by decide +kernel
theorem dX12_addText_44 : decode cX12_addText 44 = .ok (.aload_n 0, 1) := by decide +kernel
theorem dX12_addText_45 : decode cX12_addText 45 = .ok (.getfield 299, 3) := by decide +kernel
theorem dX12_addText_48 : decode cX12_addText 48 = .ok (.iastore, 1) := by decide +kernel
theorem dX12_addText_49 : decode cX12_addText 49 = .ok (.aload_n 0, 1) := by decide +kernel
theorem dX12_addText_50 : decode cX12_addText 50 = .ok (.dup, 1) := by decide +kernel
theorem dX12_addText_51 : decode cX12_addText 51 = .ok (.getfield 296, 3) := by decide +kernel
theorem dX12_addText_54 : decode cX12_addText 54 = .ok (.iconst 1, 1) := by decide +kernel
theorem dX12_addText_55 : decode cX12_addText 55 = .ok (.iadd, 1) := by decide +kernel
theorem dX12_addText_56 : decode cX12_addText 56 = .ok (.putfield 296, 3) := by decide +kernel
theorem dX12_addText_59 : decode cX12_addText 59 = .ok (.aload_n 0, 1) := by decide +kernel
theorem dX12_addText_60 : decode cX12_addText 60 = .ok (.getfield 296, 3) := by decide +kernel
theorem dX12_addText_63 : decode cX12_addText 63 = .ok (.iconst 1, 1) := by decide +kernel
theorem dX12_addText_64 : decode cX12_addText 64 = .ok (.isub, 1) := by decide +kernel
theorem dX12_addText_65 : decode cX12_addText 65 = .ok (.ireturn, 1) := by decide +kernel
theorem dX12_put_0 : decode cX12_put 0 = .ok (.aload_n 0, 1) := by decide +kernel
theorem dX12_put_1 : decode cX12_put 1 = .ok (.getfield 24, 3) := by decide +kernel
theorem dX12_put_4 : decode cX12_put 4 = .ok (.aload_n 0, 1) := by decide +kernel
theorem dX12_put_5 : decode cX12_put 5 = .ok (.getfield 299, 3) := by decide +kernel
theorem dX12_put_8 : decode cX12_put 8 = .ok (.iload_n 1, 1) := by decide +kernel
theorem dX12_put_9 : decode cX12_put 9 = .ok (.i2c, 1) := by decide +kernel
theorem dX12_put_10 : decode cX12_put 10 = .ok (.castore, 1) := by decide +kernel
theorem dX12_put_11 : decode cX12_put 11 = .ok (.aload_n 0, 1) := by decide +kernel
theorem dX12_put_12 : decode cX12_put 12 = .ok (.dup, 1) := by decide +kernel
theorem dX12_put_13 : decode cX12_put 13 = .ok (.getfield 299, 3) := by decide +kernel
theorem dX12_put_16 : decode cX12_put 16 = .ok (.iconst 1, 1) := by decide +kernel
theorem dX12_put_17 : decode cX12_put 17 = .ok (.iadd, 1) := by decide +kernel
theorem dX12_put_18 : decode cX12_put 18 = .ok (.putfield 299, 3) := by decide +kernel
theorem dX12_put_21 : decode cX12_put 21 = .ok (.return_, 1) := by decide +kernel
theorem dX12_nameOfText_0 : decode cX12_nameOfText 0 = .ok (.aload_n 0, 1) := by decide +kernel
theorem dX12_nameOfText_1 : decode cX12_nameOfText 1 = .ok (.invokevirtual 302, 3) := by decide +kernel
theorem dX12_nameOfText_4 : decode cX12_nameOfText 4 = .ok (.istore_n 1, 1) := by decide +kernel
theorem dX12_nameOfText_5 : decode cX12_nameOfText 5 = .ok (.iload_n 1, 1) := by decide +kernel
theorem dX12_nameOfText_6 : decode cX12_nameOfText 6 = .ok (.iconst (-1), 1) := by decide +kernel
theorem dX12_nameOfText_7 : decode cX12_nameOfText 7 = .ok (.if_icmp .ne 10, 3) := by decide +kernel
theorem dX12_nameOfText_10 : decode cX12_nameOfText 10 = .ok (.aload_n 0, 1) := by decide +kernel
theorem dX12_nameOfText_11 : decode cX12_nameOfText 11 = .ok (.getfield 306, 3) := by decide +kernel
theorem dX12_nameOfText_14 : decode cX12_nameOfText 14 = .ok (.ifCond .eq 5, 3) := by decide +kernel
theorem dX12_nameOfText_17 : decode cX12_nameOfText 17 = .ok (.iload_n 1, 1) := by decide +kernel
theorem dX12_nameOfText_18 : decode cX12_nameOfText 18 = .ok (.ireturn, 1) := by decide +kernel
theorem dX12_nameOfText_19 : decode cX12_nameOfText 19 = .ok (.aload_n 0, 1) := by decide +kernel
theorem dX12_nameOfText_20 : decode cX12_nameOfText 20 = .ok (.aload_n 0, 1) := by decide +kernel
theorem dX12_nameOfText_21 : decode cX12_nameOfText 21 = .ok (.getfield 296, 3) := by decide +kernel
theorem dX12_nameOfText_24 : decode cX12_nameOfText 24 = .ok (.bipush 90, 2) := by decide +kernel
theorem dX12_nameOfText_26 : decode cX12_nameOfText 26 = .ok (.if_icmp .ne 7, 3) := by decide +kernel
theorem dX12_nameOfText_29 : decode cX12_nameOfText 29 = .ok (.iconst 1, 1) := by decide +kernel
theorem dX12_nameOfText_30 : decode cX12_nameOfText 30 = .ok (.goto 4, 3) := by decide +kernel
theorem dX12_nameOfText_33 : decode cX12_nameOfText 33 = .ok (.iconst 0, 1) := by decide +kernel
theorem dX12_nameOfText_34 : decode cX12_nameOfText 34 = .ok (.putfield 306, 3) := by decide +kernel
theorem dX12_nameOfText_37 : decode cX12_nameOfText 37 = .ok (.aload_n 0, 1) := by decide +kernel
theorem dX12_nameOfText_38 : decode cX12_nameOfText 38 = .ok (.getfield 306, 3) := by decide +kernel
theorem dX12_nameOfText_41 : decode cX12_nameOfText 41 = .ok (.ifCond .eq 7, 3) := by decide +kernel
theorem dX12_nameOfText_44 : decode cX12_nameOfText 44 = .ok (.iconst (-1), 1) := by decide +kernel
theorem dX12_nameOfText_45 : decode cX12_nameOfText 45 = .ok (.goto 7, 3) := by decide +kernel
theorem dX12_nameOfText_48 : decode cX12_nameOfText 48 = .ok (.aload_n 0, 1) := by decide +kernel
theorem dX12_nameOfText_49 : decode cX12_nameOfText 49 = .ok (.invokevirtual 310, 3) := by decide +kernel
theorem dX12_nameOfText_52 : decode cX12_nameOfText 52 = .ok (.ireturn, 1) := by decide +kernel
/-- the lengths of so many strings; the first one has six letters -/
def sm_LN (ln : Int → Int) (n ns : Int) : Prop := (∀ s : Int, 0 ≤ s → s < n → 0 ≤ ln s ∧ ln s ≤ 90 ∧ 60 * s + ln s ≤ 24000) ∧ (1 ≤ ns → ln 0 = 6)
theorem sm_LN_at {ln : Int → Int} {n ns : Int} (h : sm_LN ln n ns) (s : Int) (h0 : 0 ≤ s) (h1 : s < n) : 0 ≤ ln s ∧ ln s ≤ 90 ∧ 60 * s + ln s ≤ 24000 := h.1 s h0 h1
theorem sm_LN_6 {ln : Int → Int} {n ns : Int} (h : sm_LN ln n ns) (h1 : 1 ≤ ns) : ln 0 = 6 := h.2 h1
theorem sm_LN_z {ln : Int → Int} {n ns ns' : Int} (h : sm_LN ln n ns) (h1 : ns' ≤ 0) : sm_LN ln n ns' := ⟨h.1, fun q => by omega⟩
theorem sm_LN_w {ln : Int → Int} {n ns ns' : Int} (h : sm_LN ln n ns) (h1 : 1 ≤ ns) : sm_LN ln n ns' := ⟨h.1, fun _ => h.2 h1⟩
theorem sm_LN_up {ln : Int → Int} {n i x ns ns' : Int} (h : sm_LN ln n ns) (h2 : 0 ≤ x ∧ x ≤ 90 ∧ 60 * i + x ≤ 24000) (h3 : 0 ≤ i) (h4 : 1 ≤ i → 1 ≤ ns) (h5 : i = 0 → x = 6) : sm_LN (fun i' : Int => if i' = i then x else ln i') n ns' := by
  refine ⟨fun s h3 h4 => ?_, fun q => ?_⟩
  · by_cases hs : s = i
    · subst hs; dsimp only; rw [if_pos rfl]; exact h2
    · dsimp only; rw [if_neg hs]; exact h.1 s h3 h4
  · dsimp only
    by_cases hs : (0 : Int) = i
    · rw [if_pos hs]; exact h5 hs.symm
    · rw [if_neg hs]; exact h.2 (h4 (by omega))

def q_findText (S : sv_S) : Option Value → sv_S → Prop := fun v S' => ∃ r : Int, v = some (sv_I r) ∧ sv_R r ∧ sm_ok S' ∧ sv_mod [] S S' ∧ (r = -1 ∨ (0 ≤ r ∧ r < (S' 1007 0) ∧ (S' 4 r) = (S' 1011 0)))
theorem la_findText_0 {x0 : Int} (h0 : 0 ≤ x0) : (0 : Int) ≤ 0 ∧ 0 ≤ x0 := by omega
theorem la_findText_1 {x0 x1 : Int} (h0 : x0 ≤ x1) : 0 ≤ x1 - x0 := by omega
theorem la_findText_2 {x0 x1 x2 x3 : Int} : x0 ≤ x1 → ((-1) : Int) = (-1) ∨ (0 : Int) ≤ (-1) ∧ (-1) < x0 ∧ x2 = x3 := by omega
theorem la_findText_3 {x0 x1 : Int} (h0 : x0 ≤ 400) (h1 : 0 ≤ x1) (h2 : ¬ x0 ≤ x1) : 0 ≤ x1 ∧ x1 < 400 := by omega
theorem la_findText_4 {x0 x1 x2 x3 : Int} (h0 : 0 ≤ x0) (h1 : 0 ≤ x1) (h2 : ¬ x2 ≤ x1) : (0 : Int) ≤ 0 ∧ 0 ≤ x0 ∧ 0 ≤ x1 ∧ x1 < x2 ∧ ((0 : Int) = 0 ∨ (0 : Int) = 1) ∧ ((0 : Int) = 1 → x3 = x0) := by omega
theorem la_findText_5 {x0 : Int} (h0 : x0 = 0) : x0 ≤ 1 := by omega
theorem la_findText_6 {x0 : Int} (h0 : x0 ≤ 1) (h1 : ¬ x0 = 1) : x0 < 1 := by omega
theorem la_findText_7 {x0 x1 x2 x3 x4 x5 : Int} (h0 : x0 ≤ 400) (h1 : 0 ≤ x1) (h2 : ¬ x0 ≤ x1) (h3 : x1 < x0) (h4 : x2 = 0) : x3 ≤ x4 → (x2 = 0 → sv_R (x1 + 1) ∧ (0 ≤ x1 + 1 ∧ x1 + 1 ≤ x0) ∧ x0 - (x1 + 1) < x0 - x1) ∧ (¬ x2 = 0 → x1 = (-1) ∨ 0 ≤ x1 ∧ x1 < x0 ∧ x5 = x3) := by omega
theorem la_findText_8 {x0 x1 x2 x3 x4 : Int} (h0 : x0 ≤ 400) (h1 : 0 ≤ x1) (h2 : ¬ x0 ≤ x1) (h3 : x2 = 0) : x2 = 0 → (x2 = 0 → sv_R (x1 + 1) ∧ (0 ≤ x1 + 1 ∧ x1 + 1 ≤ x0) ∧ x0 - (x1 + 1) < x0 - x1) ∧ (¬ x2 = 0 → x1 = (-1) ∨ 0 ≤ x1 ∧ x1 < x0 ∧ x3 = x4) := by omega
theorem la_findText_9 {x0 : Int} (h0 : x0 = 0) : x0 ≤ 0 := by omega
theorem la_findText_10 {x0 : Int} (h0 : x0 ≤ 0) (h1 : ¬ x0 = 0) : x0 < 0 := by omega
theorem la_findText_11 {x0 x1 : Int} (h0 : 0 ≤ x0) (h1 : 0 ≤ x1) : 0 ≤ 60 * x0 + x1 := by omega
theorem la_findText_12 {x0 x1 : Int} (h0 : x0 ≤ 400) (h1 : ¬ x0 ≤ x1) : x1 < 400 := by omega
theorem la_findText_13 {x0 : Int} (h0 : x0 = 0) (h1 : x0 < 0) : False := by omega
theorem la_findText_14 {x0 x1 : Int} (h0 : x0 ≤ 200) (h1 : 0 ≤ x1) (h2 : ¬ x0 ≤ x1) : 0 ≤ x1 ∧ x1 < 200 := by omega
theorem la_findText_15 {x0 x1 x2 x3 x4 x5 x6 : Int} (h0 : x0 ≤ 200) (h1 : 0 ≤ x1) (h2 : 0 ≤ x2) (h3 : x1 < x3) (h4 : ¬ x0 ≤ x2) : ¬ x4 = x5 → sv_R (x2 + 1) ∧ (0 ≤ x2 + 1 ∧ x2 + 1 ≤ x0 ∧ 0 ≤ x1 ∧ x1 < x3 ∧ ((0 : Int) = 0 ∨ (0 : Int) = 1) ∧ ((0 : Int) = 1 → x6 = x0)) ∧ x0 - (x2 + 1) < x0 - x2 := by omega
theorem la_findText_16 {x0 x1 : Int} (h0 : x0 ≤ 200) (h1 : 0 ≤ x1) (h2 : ¬ x0 ≤ x1) : sv_R (x1 + 1) := by omega
theorem la_findText_17 {x0 : Int} (h0 : 0 ≤ x0) : 0 ≤ x0 + 1 := by omega
theorem la_findText_18 {x0 x1 : Int} (h0 : ¬ x0 ≤ x1) : x1 + 1 ≤ x0 := by omega
theorem la_findText_19 : (1 : Int) = 0 ∨ (1 : Int) = 1 := by omega
theorem la_findText_20 {x0 x1 : Int} : x0 - (x1 + 1) < x0 - x1 := by omega
theorem la_findText_21 {x0 x1 x2 x3 : Int} (h0 : 0 ≤ x0) (h1 : 0 ≤ x1) (h2 : ¬ x2 ≤ x1) (h3 : ¬ ¬ x3 = x0) : (0 : Int) ≤ 0 ∧ 0 ≤ x0 ∧ 0 ≤ x1 ∧ x1 < x2 ∧ ((1 : Int) = 0 ∨ (1 : Int) = 1) ∧ ((1 : Int) = 1 → x3 = x0) := by omega
theorem la_findText_22 {x0 x1 x2 x3 x4 x5 : Int} (h0 : x0 ≤ 400) (h1 : 0 ≤ x1) (h2 : ¬ x0 ≤ x1) (h3 : ¬ ¬ x2 = x3) (h4 : x1 < x0) : x3 ≤ x4 → (x5 = 0 → sv_R (x1 + 1) ∧ (0 ≤ x1 + 1 ∧ x1 + 1 ≤ x0) ∧ x0 - (x1 + 1) < x0 - x1) ∧ (¬ x5 = 0 → x1 = (-1) ∨ 0 ≤ x1 ∧ x1 < x0 ∧ x2 = x3) := by omega
theorem la_findText_23 {x0 x1 x2 x3 x4 : Int} (h0 : x0 ≤ 400) (h1 : 0 ≤ x1) (h2 : x1 < x0) : x2 = 0 → (x2 = 0 → sv_R (x1 + 1) ∧ (0 ≤ x1 + 1 ∧ x1 + 1 ≤ x0) ∧ x0 - (x1 + 1) < x0 - x1) ∧ (¬ x2 = 0 → x1 = (-1) ∨ 0 ≤ x1 ∧ x1 < x0 ∧ x3 = x4) := by omega
theorem la_findText_24 {x0 : Int} (h0 : x0 = 1) : 0 ≤ x0 := by omega
theorem la_findText_25 {x0 : Int} (h0 : 0 ≤ x0) (h1 : ¬ x0 = 0) : 0 < x0 := by omega
theorem la_findText_26 {x0 x1 x2 x3 : Int} (h0 : ¬ ¬ x0 = x1) (h1 : ¬ x1 ≤ x2) (h2 : 60 * x3 + x0 ≤ 24000) : 60 * x3 + x2 < 24000 := by omega
theorem la_findText_27 {x0 x1 x2 x3 x4 : Int} (h0 : 0 ≤ x0) (h1 : ¬ x1 ≤ x0) (h2 : ¬ ¬ x2 = x3) (h3 : 0 ≤ x4) (h4 : ¬ x3 ≤ x4) (h5 : x2 = x3) : 0 ≤ x4 + 1 ∧ x4 + 1 ≤ x3 ∧ 0 ≤ x0 ∧ x0 < x1 ∧ ((1 : Int) = 0 ∨ (1 : Int) = 1) ∧ ((1 : Int) = 1 → x2 = x3) := by omega
set_option maxHeartbeats 2000000 in
theorem f_findText : ∀ (S : sv_S), sm_ok S → (0 ≤ (S 1007 0) ∧ (S 1007 0) ≤ 400 ∧ sm_LN (S 4) 400 (S 1007 0) ∧ 0 ≤ (S 1011 0) ∧ (S 1011 0) ≤ 200) → ((0 ≤ (0 : Int) ∧ (0 : Int) ≤ (S 1007 0)) ∧ (∀ l1_1 : Int, sv_R l1_1 → (0 ≤ l1_1 ∧ l1_1 ≤ (S 1007 0)) → (0 ≤ (S 1007 0) - l1_1) ∧ (sv_R (S 1007 0) → ((((S 1007 0) ≤ l1_1) → ((-1 : Int) = -1 ∨ (0 ≤ (-1 : Int) ∧ (-1 : Int) < (S 1007 0) ∧ (S 4 (-1 : Int)) = (S 1011 0)))) ∧ ((¬ ((S 1007 0) ≤ l1_1)) → (0 ≤ l1_1 ∧ l1_1 < 400) ∧ (sv_R (S 4 l1_1) → (sv_R (S 1011 0) → (((¬ (S 4 l1_1) = (S 1011 0)) → ((0 ≤ (0 : Int) ∧ (0 : Int) ≤ (S 1011 0) ∧ 0 ≤ l1_1 ∧ l1_1 < (S 1007 0) ∧ ((0 : Int) = 0 ∨ (0 : Int) = 1) ∧ ((0 : Int) = 1 → (S 4 l1_1) = (S 1011 0))) ∧ (∀ l2_9 : Int, sv_R l2_9 → ∀ l3_10 : Int, sv_R l3_10 → (0 ≤ l3_10 ∧ l3_10 ≤ (S 1011 0) ∧ 0 ≤ l1_1 ∧ l1_1 < (S 1007 0) ∧ (l2_9 = 0 ∨ l2_9 = 1) ∧ (l2_9 = 1 → (S 4 l1_1) = (S 1011 0))) → (0 ≤ (S 1011 0) - l3_10) ∧ ((((S 1011 0) ≤ l3_10) → (((l2_9 = (0 : Int)) → (sv_R (l1_1 + (1 : Int))) ∧ ((0 ≤ (l1_1 + (1 : Int)) ∧ (l1_1 + (1 : Int)) ≤ (S 1007 0)) ∧ ((S 1007 0) - (l1_1 + (1 : Int))) < ((S 1007 0) - l1_1))) ∧ ((¬ (l2_9 = (0 : Int))) → (l1_1 = -1 ∨ (0 ≤ l1_1 ∧ l1_1 < (S 1007 0) ∧ (S 4 l1_1) = (S 1011 0)))))) ∧ ((¬ ((S 1011 0) ≤ l3_10)) → (((l2_9 = (0 : Int)) → (((l2_9 = (0 : Int)) → (sv_R (l1_1 + (1 : Int))) ∧ ((0 ≤ (l1_1 + (1 : Int)) ∧ (l1_1 + (1 : Int)) ≤ (S 1007 0)) ∧ ((S 1007 0) - (l1_1 + (1 : Int))) < ((S 1007 0) - l1_1))) ∧ ((¬ (l2_9 = (0 : Int))) → (l1_1 = -1 ∨ (0 ≤ l1_1 ∧ l1_1 < (S 1007 0) ∧ (S 4 l1_1) = (S 1011 0)))))) ∧ ((¬ (l2_9 = (0 : Int))) → (0 ≤ (((60 : Int) * l1_1) + l3_10) ∧ (((60 : Int) * l1_1) + l3_10) < 24000) ∧ ((0 ≤ (S 3 (((60 : Int) * l1_1) + l3_10)) ∧ (S 3 (((60 : Int) * l1_1) + l3_10)) ≤ 65535) → (0 ≤ l3_10 ∧ l3_10 < 200) ∧ ((0 ≤ (S 5 l3_10) ∧ (S 5 l3_10) ≤ 65535) → (((¬ (S 3 (((60 : Int) * l1_1) + l3_10)) = (S 5 l3_10)) → (sv_R (l3_10 + (1 : Int))) ∧ ((0 ≤ (l3_10 + (1 : Int)) ∧ (l3_10 + (1 : Int)) ≤ (S 1011 0) ∧ 0 ≤ l1_1 ∧ l1_1 < (S 1007 0) ∧ ((0 : Int) = 0 ∨ (0 : Int) = 1) ∧ ((0 : Int) = 1 → (S 4 l1_1) = (S 1011 0))) ∧ ((S 1011 0) - (l3_10 + (1 : Int))) < ((S 1011 0) - l3_10))) ∧ ((¬ (¬ (S 3 (((60 : Int) * l1_1) + l3_10)) = (S 5 l3_10))) → (sv_R (l3_10 + (1 : Int))) ∧ ((0 ≤ (l3_10 + (1 : Int)) ∧ (l3_10 + (1 : Int)) ≤ (S 1011 0) ∧ 0 ≤ l1_1 ∧ l1_1 < (S 1007 0) ∧ ((1 : Int) = 0 ∨ (1 : Int) = 1) ∧ ((1 : Int) = 1 → (S 4 l1_1) = (S 1011 0))) ∧ ((S 1011 0) - (l3_10 + (1 : Int))) < ((S 1011 0) - l3_10))))))))))))) ∧ ((¬ (¬ (S 4 l1_1) = (S 1011 0))) → ((0 ≤ (0 : Int) ∧ (0 : Int) ≤ (S 1011 0) ∧ 0 ≤ l1_1 ∧ l1_1 < (S 1007 0) ∧ ((1 : Int) = 0 ∨ (1 : Int) = 1) ∧ ((1 : Int) = 1 → (S 4 l1_1) = (S 1011 0))) ∧ (∀ l2_22 : Int, sv_R l2_22 → ∀ l3_23 : Int, sv_R l3_23 → (0 ≤ l3_23 ∧ l3_23 ≤ (S 1011 0) ∧ 0 ≤ l1_1 ∧ l1_1 < (S 1007 0) ∧ (l2_22 = 0 ∨ l2_22 = 1) ∧ (l2_22 = 1 → (S 4 l1_1) = (S 1011 0))) → (0 ≤ (S 1011 0) - l3_23) ∧ ((((S 1011 0) ≤ l3_23) → (((l2_22 = (0 : Int)) → (sv_R (l1_1 + (1 : Int))) ∧ ((0 ≤ (l1_1 + (1 : Int)) ∧ (l1_1 + (1 : Int)) ≤ (S 1007 0)) ∧ ((S 1007 0) - (l1_1 + (1 : Int))) < ((S 1007 0) - l1_1))) ∧ ((¬ (l2_22 = (0 : Int))) → (l1_1 = -1 ∨ (0 ≤ l1_1 ∧ l1_1 < (S 1007 0) ∧ (S 4 l1_1) = (S 1011 0)))))) ∧ ((¬ ((S 1011 0) ≤ l3_23)) → (((l2_22 = (0 : Int)) → (((l2_22 = (0 : Int)) → (sv_R (l1_1 + (1 : Int))) ∧ ((0 ≤ (l1_1 + (1 : Int)) ∧ (l1_1 + (1 : Int)) ≤ (S 1007 0)) ∧ ((S 1007 0) - (l1_1 + (1 : Int))) < ((S 1007 0) - l1_1))) ∧ ((¬ (l2_22 = (0 : Int))) → (l1_1 = -1 ∨ (0 ≤ l1_1 ∧ l1_1 < (S 1007 0) ∧ (S 4 l1_1) = (S 1011 0)))))) ∧ ((¬ (l2_22 = (0 : Int))) → (0 ≤ (((60 : Int) * l1_1) + l3_23) ∧ (((60 : Int) * l1_1) + l3_23) < 24000) ∧ ((0 ≤ (S 3 (((60 : Int) * l1_1) + l3_23)) ∧ (S 3 (((60 : Int) * l1_1) + l3_23)) ≤ 65535) → (0 ≤ l3_23 ∧ l3_23 < 200) ∧ ((0 ≤ (S 5 l3_23) ∧ (S 5 l3_23) ≤ 65535) → (((¬ (S 3 (((60 : Int) * l1_1) + l3_23)) = (S 5 l3_23)) → (sv_R (l3_23 + (1 : Int))) ∧ ((0 ≤ (l3_23 + (1 : Int)) ∧ (l3_23 + (1 : Int)) ≤ (S 1011 0) ∧ 0 ≤ l1_1 ∧ l1_1 < (S 1007 0) ∧ ((0 : Int) = 0 ∨ (0 : Int) = 1) ∧ ((0 : Int) = 1 → (S 4 l1_1) = (S 1011 0))) ∧ ((S 1011 0) - (l3_23 + (1 : Int))) < ((S 1011 0) - l3_23))) ∧ ((¬ (¬ (S 3 (((60 : Int) * l1_1) + l3_23)) = (S 5 l3_23))) → (sv_R (l3_23 + (1 : Int))) ∧ ((0 ≤ (l3_23 + (1 : Int)) ∧ (l3_23 + (1 : Int)) ≤ (S 1011 0) ∧ 0 ≤ l1_1 ∧ l1_1 < (S 1007 0) ∧ ((1 : Int) = 0 ∨ (1 : Int) = 1) ∧ ((1 : Int) = 1 → (S 4 l1_1) = (S 1011 0))) ∧ ((S 1011 0) - (l3_23 + (1 : Int))) < ((S 1011 0) - l3_23))))))))))))))))))))) := by
  intro S
  intro h1_
  rintro ⟨h2_, ⟨h3_, ⟨h4_, ⟨h5_, h6_⟩⟩⟩⟩
  refine ⟨(la_findText_0 h2_), ?_⟩
  intro l1_1
  intro h7_
  rintro ⟨h8_, h9_⟩
  refine ⟨(la_findText_1 h9_), ?_⟩
  intro h10_
  refine ⟨la_findText_2, ?_⟩
  intro h11_
  refine ⟨(la_findText_3 h3_ h8_ h11_), ?_⟩
  intro h12_
  intro h13_
  refine ⟨?_, ?_⟩
  · skip
    intro h14_
    refine ⟨(la_findText_4 h5_ h8_ h11_), ?_⟩
    intro l2_9
    intro h15_
    intro l3_10
    intro h16_
    rintro ⟨h17_, ⟨h18_, ⟨h19_, ⟨h20_, ⟨h21_, h22_⟩⟩⟩⟩⟩
    have h23_ : ¬ (l2_9 = 1) := fun q_ => h14_ (h22_ q_)
    have h24_ := (h21_.resolve_right h23_)
    refine ⟨(la_findText_1 h18_), ?_⟩
    refine ⟨(la_findText_7 h3_ h8_ h11_ h20_ h24_), ?_⟩
    intro h25_
    refine ⟨(la_findText_8 h3_ h8_ h11_ h24_), ?_⟩
    intro h26_
    refine ⟨?_, ?_⟩
    · skip
      refine ⟨(la_findText_11 h8_ h17_), ?_⟩
      exact ((la_findText_13 h24_ (la_findText_10 (la_findText_9 h24_) h26_))).elim
    rintro ⟨h27_, h28_⟩
    refine ⟨(la_findText_14 h6_ h17_ h25_), ?_⟩
    rintro ⟨h29_, h30_⟩
    refine ⟨(la_findText_15 h6_ h8_ h17_ h20_ h25_), ?_⟩
    intro h31_
    refine ⟨(la_findText_16 h6_ h17_ h25_), ?_⟩
    refine ⟨?_, ?_⟩
    · skip
      refine ⟨(la_findText_17 h17_), ?_⟩
      refine ⟨(la_findText_18 h25_), ?_⟩
      refine ⟨h8_, ?_⟩
      refine ⟨h20_, ?_⟩
      refine ⟨la_findText_19, ?_⟩
      intro h32_
      exact ((la_findText_13 h24_ (la_findText_10 (la_findText_9 h24_) h26_))).elim
    exact la_findText_20
  intro h33_
  refine ⟨(la_findText_21 h5_ h8_ h11_ h33_), ?_⟩
  intro l2_22
  intro h34_
  intro l3_23
  intro h35_
  rintro ⟨h36_, ⟨h37_, ⟨h38_, ⟨h39_, ⟨h40_, h41_⟩⟩⟩⟩⟩
  refine ⟨(la_findText_1 h37_), ?_⟩
  refine ⟨(la_findText_22 h3_ h8_ h11_ h33_ h39_), ?_⟩
  intro h42_
  refine ⟨(la_findText_23 h3_ h8_ h39_), ?_⟩
  intro h43_
  have h44_ := (h40_.resolve_left h43_)
  have h45_ := (h41_ h44_)
  refine ⟨?_, ?_⟩
  · skip
    refine ⟨(la_findText_11 h8_ h36_), ?_⟩
    exact (la_findText_26 h33_ h42_ (sm_LN_at h4_ l1_1 h8_ (la_findText_12 h3_ h11_)).2.2)
  rintro ⟨h46_, h47_⟩
  refine ⟨(la_findText_14 h6_ h36_ h42_), ?_⟩
  rintro ⟨h48_, h49_⟩
  refine ⟨(la_findText_15 h6_ h8_ h36_ h39_ h42_), ?_⟩
  intro h50_
  refine ⟨(la_findText_16 h6_ h36_ h42_), ?_⟩
  refine ⟨(la_findText_27 h8_ h11_ h33_ h36_ h42_ h45_), ?_⟩
  exact la_findText_20
set_option maxRecDepth 8000 in
set_option maxHeartbeats 2000000 in
theorem t_findText : ∀ (S : sv_S), sm_ok S → (0 ≤ (S 1007 0) ∧ (S 1007 0) ≤ 400 ∧ sm_LN (S 4) 400 (S 1007 0) ∧ 0 ≤ (S 1011 0) ∧ (S 1011 0) ≤ 200) → sv_T sm_XS sm_cs sm_L sm_sh 0 (q_findText S) 5 0 (lv_args 0 [.ref 0]) [] S := by
  intro S hok hpre
  have h := f_findText S hok hpre
  have hM := sm_h5
  show sv_T sm_XS sm_cs sm_L sm_sh 0 (q_findText S) 5 0 [(0, .ref 0)] [] S
  refine sv_iconst (d := (0 : Int)) hM dX12_findText_0 rfl rfl ?_
  refine sv_istore_n hM dX12_findText_1 (by decide) rfl ?_
  show sv_T sm_XS sm_cs sm_L sm_sh 0 (q_findText S) 5 2 [(0, .ref 0), (1, sv_I (0 : Int))] [] S
  obtain ⟨hin3, h⟩ := h
  have hJ : ∀ a : Int × Unit, (sv_R a.1 ∧ sm_ok S ∧ (0 ≤ a.1 ∧ a.1 ≤ (S 1007 0))) → sv_T sm_XS sm_cs sm_L sm_sh 0 (q_findText S) 5 2 [(0, .ref 0), (1, sv_I a.1)] [] S := by
    refine sv_loop (α := Int × Unit) (fun a => sv_R a.1 ∧ sm_ok S ∧ (0 ≤ a.1 ∧ a.1 ≤ (S 1007 0))) (fun a => (S 1007 0) - a.1) (fun a => sv_T sm_XS sm_cs sm_L sm_sh 0 (q_findText S) 5 2 [(0, .ref 0), (1, sv_I a.1)] [] S) (fun a q => (h a.1 q.1 q.2.2).1) (fun a q ih2 => ?_)
    obtain ⟨l1_1, _u⟩ := a
    obtain ⟨hl1_1, ok4, hin3i⟩ := q
    have h := (h l1_1 hl1_1 hin3i).2
    show sv_T sm_XS sm_cs sm_L sm_sh 0 (q_findText S) 5 2 [(0, .ref 0), (1, sv_I l1_1)] [] S
    refine sv_iload_n hM dX12_findText_2 rfl rfl ?_
    refine sv_aload_n hM dX12_findText_3 rfl rfl ?_
    have k5 : sv_R (S 1007 0) := sm_okI ok4 sm_r1007 0
    have h := h k5
    refine sv_getI hM dX12_findText_4 sm_fl_296 (sm_a0 _) sm_k7 rfl (x := (S 1007 0)) rfl ?_
    refine sv_icmp_ge hM dX12_findText_7 hl1_1 k5 (t := 87) rfl rfl (fun hc => ?_) (fun hc => ?_)
    · have h := h.1 (hc)
      refine sv_iconst (d := (-1 : Int)) hM dX12_findText_87 rfl rfl ?_
      exact sv_iret hM dX12_findText_88 rfl rfl ⟨(-1 : Int), rfl, (⟨by decide, by decide⟩ : sv_R (-1 : Int)), ok4, sv_mod.rf, h⟩
    · have h := h.2 (hc)
      refine sv_aload_n hM dX12_findText_10 rfl rfl ?_
      refine sv_getA hM dX12_findText_11 sm_fl_20 (sm_a0 _) sm_k6 rfl ?_
      refine sv_iload_n hM dX12_findText_14 rfl rfl ?_
      obtain ⟨o6, h⟩ := h
      have k7 : sv_R (S 4 l1_1) := sm_okI ok4 sm_r4 l1_1
      have h := h k7
      refine sv_iald hM dX12_findText_15 (sm_a4 _) (by decide) o6.1 o6.2 rfl (x := (S 4 l1_1)) rfl ?_
      refine sv_aload_n hM dX12_findText_16 rfl rfl ?_
      have k8 : sv_R (S 1011 0) := sm_okI ok4 sm_r1011 0
      have h := h k8
      refine sv_getI hM dX12_findText_17 sm_fl_299 (sm_a0 _) sm_k11 rfl (x := (S 1011 0)) rfl ?_
      refine sv_icmp_ne hM dX12_findText_20 k7 k8 (t := 27) rfl rfl (fun hc => ?_) (fun hc => ?_)
      · have h := h.1 (hc)
        refine sv_iconst (d := (0 : Int)) hM dX12_findText_27 rfl rfl ?_
        refine sv_istore_n hM dX12_findText_28 (by decide) rfl ?_
        show sv_T sm_XS sm_cs sm_L sm_sh 0 (q_findText S) 5 29 [(0, .ref 0), (1, sv_I l1_1), (2, sv_I (0 : Int))] [] S
        refine sv_iconst (d := (0 : Int)) hM dX12_findText_29 rfl rfl ?_
        refine sv_istore_n hM dX12_findText_30 (by decide) rfl ?_
        show sv_T sm_XS sm_cs sm_L sm_sh 0 (q_findText S) 5 31 [(0, .ref 0), (1, sv_I l1_1), (2, sv_I (0 : Int)), (3, sv_I (0 : Int))] [] S
        obtain ⟨hin12, h⟩ := h
        have hJ : ∀ a : Int × Int × Unit, (sv_R a.1 ∧ sv_R a.2.1 ∧ sm_ok S ∧ (0 ≤ a.2.1 ∧ a.2.1 ≤ (S 1011 0) ∧ 0 ≤ l1_1 ∧ l1_1 < (S 1007 0) ∧ (a.1 = 0 ∨ a.1 = 1) ∧ (a.1 = 1 → (S 4 l1_1) = (S 1011 0)))) → sv_T sm_XS sm_cs sm_L sm_sh 0 (q_findText S) 5 31 [(0, .ref 0), (1, sv_I l1_1), (2, sv_I a.1), (3, sv_I a.2.1)] [] S := by
          refine sv_loop (α := Int × Int × Unit) (fun a => sv_R a.1 ∧ sv_R a.2.1 ∧ sm_ok S ∧ (0 ≤ a.2.1 ∧ a.2.1 ≤ (S 1011 0) ∧ 0 ≤ l1_1 ∧ l1_1 < (S 1007 0) ∧ (a.1 = 0 ∨ a.1 = 1) ∧ (a.1 = 1 → (S 4 l1_1) = (S 1011 0)))) (fun a => (S 1011 0) - a.2.1) (fun a => sv_T sm_XS sm_cs sm_L sm_sh 0 (q_findText S) 5 31 [(0, .ref 0), (1, sv_I l1_1), (2, sv_I a.1), (3, sv_I a.2.1)] [] S) (fun a q => (h a.1 q.1 a.2.1 q.2.1 q.2.2.2).1) (fun a q ih11 => ?_)
          obtain ⟨l2_9, l3_10, _u⟩ := a
          obtain ⟨hl2_9, hl3_10, ok13, hin12i⟩ := q
          have h := (h l2_9 hl2_9 l3_10 hl3_10 hin12i).2
          show sv_T sm_XS sm_cs sm_L sm_sh 0 (q_findText S) 5 31 [(0, .ref 0), (1, sv_I l1_1), (2, sv_I l2_9), (3, sv_I l3_10)] [] S
          refine sv_iload_n hM dX12_findText_31 rfl rfl ?_
          refine sv_aload_n hM dX12_findText_32 rfl rfl ?_
          refine sv_getI hM dX12_findText_33 sm_fl_299 (sm_a0 _) sm_k11 rfl (x := (S 1011 0)) rfl ?_
          refine sv_icmp_ge hM dX12_findText_36 hl3_10 k8 (t := 75) rfl rfl (fun hc => ?_) (fun hc => ?_)
          · have h := h.1 (hc)
            refine sv_iload_n hM dX12_findText_75 rfl rfl ?_
            refine sv_cond_eq hM dX12_findText_76 hl2_9 (t := 81) rfl rfl (fun hc => ?_) (fun hc => ?_)
            · have h := h.1 (hc)
              refine sv_iinc (d := (1 : Int)) hM dX12_findText_81 rfl (by decide) rfl rfl ?_
              show sv_T sm_XS sm_cs sm_L sm_sh 0 (q_findText S) 5 84 [(0, .ref 0), (1, sv_I (l1_1 + (1 : Int))), (2, sv_I l2_9), (3, sv_I l3_10)] [] S
              refine sv_goto hM dX12_findText_84 (pc' := 2) rfl ?_
              obtain ⟨o14, h⟩ := h
              have hb := ih2 ((l1_1 + (1 : Int)), ()) ⟨o14, ok13, h.1⟩ h.2
              exact sv_less (lv := [(0, .ref 0), (1, sv_I (l1_1 + (1 : Int)))]) (sv_Sub_cons rfl (sv_Sub_cons rfl sv_Sub_nil)) hb
            · have h := h.2 (hc)
              refine sv_iload_n hM dX12_findText_79 rfl rfl ?_
              exact sv_iret hM dX12_findText_80 rfl rfl ⟨l1_1, rfl, hl1_1, ok13, sv_mod.rf, h⟩
          · have h := h.2 (hc)
            refine sv_iload_n hM dX12_findText_39 rfl rfl ?_
            refine sv_cond_eq hM dX12_findText_40 hl2_9 (t := 75) rfl rfl (fun hc => ?_) (fun hc => ?_)
            · have h := h.1 (hc)
              refine sv_iload_n hM dX12_findText_75 rfl rfl ?_
              refine sv_cond_eq hM dX12_findText_76 hl2_9 (t := 81) rfl rfl (fun hc => ?_) (fun hc => ?_)
              · have h := h.1 (hc)
                refine sv_iinc (d := (1 : Int)) hM dX12_findText_81 rfl (by decide) rfl rfl ?_
                show sv_T sm_XS sm_cs sm_L sm_sh 0 (q_findText S) 5 84 [(0, .ref 0), (1, sv_I (l1_1 + (1 : Int))), (2, sv_I l2_9), (3, sv_I l3_10)] [] S
                refine sv_goto hM dX12_findText_84 (pc' := 2) rfl ?_
                obtain ⟨o15, h⟩ := h
                have hb := ih2 ((l1_1 + (1 : Int)), ()) ⟨o15, ok13, h.1⟩ h.2
                exact sv_less (lv := [(0, .ref 0), (1, sv_I (l1_1 + (1 : Int)))]) (sv_Sub_cons rfl (sv_Sub_cons rfl sv_Sub_nil)) hb
              · have h := h.2 (hc)
                refine sv_iload_n hM dX12_findText_79 rfl rfl ?_
                exact sv_iret hM dX12_findText_80 rfl rfl ⟨l1_1, rfl, hl1_1, ok13, sv_mod.rf, h⟩
            · have h := h.2 (hc)
              refine sv_aload_n hM dX12_findText_43 rfl rfl ?_
              refine sv_getA hM dX12_findText_44 sm_fl_16 (sm_a0 _) sm_k5 rfl ?_
              refine sv_bipush (d := (60 : Int)) hM dX12_findText_47 rfl rfl ?_
              refine sv_iload_n hM dX12_findText_49 rfl rfl ?_
              refine sv_imul hM dX12_findText_50 rfl ?_
              refine sv_iload_n hM dX12_findText_51 rfl rfl ?_
              refine sv_iadd hM dX12_findText_52 rfl ?_
              obtain ⟨o16, h⟩ := h
              have k17 : (0 ≤ (S 3 (((60 : Int) * l1_1) + l3_10)) ∧ (S 3 (((60 : Int) * l1_1) + l3_10)) ≤ 65535) := sm_okC ok13 sm_r3 (((60 : Int) * l1_1) + l3_10)
              have h := h k17
              refine sv_cald hM dX12_findText_53 (sm_a3 _) (by decide) o16.1 o16.2 rfl (x := (S 3 (((60 : Int) * l1_1) + l3_10))) rfl ?_
              refine sv_aload_n hM dX12_findText_54 rfl rfl ?_
              refine sv_getA hM dX12_findText_55 sm_fl_24 (sm_a0 _) sm_k10 rfl ?_
              refine sv_iload_n hM dX12_findText_58 rfl rfl ?_
              obtain ⟨o18, h⟩ := h
              have k19 : (0 ≤ (S 5 l3_10) ∧ (S 5 l3_10) ≤ 65535) := sm_okC ok13 sm_r5 l3_10
              have h := h k19
              refine sv_cald hM dX12_findText_59 (sm_a5 _) (by decide) o18.1 o18.2 rfl (x := (S 5 l3_10)) rfl ?_
              refine sv_icmp_ne hM dX12_findText_60 (sv_RC k17) (sv_RC k19) (t := 67) rfl rfl (fun hc => ?_) (fun hc => ?_)
              · have h := h.1 (hc)
                refine sv_iconst (d := (0 : Int)) hM dX12_findText_67 rfl rfl ?_
                refine sv_istore_n hM dX12_findText_68 (by decide) rfl ?_
                show sv_T sm_XS sm_cs sm_L sm_sh 0 (q_findText S) 5 69 [(0, .ref 0), (1, sv_I l1_1), (2, sv_I (0 : Int)), (3, sv_I l3_10)] [] S
                refine sv_iinc (d := (1 : Int)) hM dX12_findText_69 rfl (by decide) rfl rfl ?_
                show sv_T sm_XS sm_cs sm_L sm_sh 0 (q_findText S) 5 72 [(0, .ref 0), (1, sv_I l1_1), (2, sv_I (0 : Int)), (3, sv_I (l3_10 + (1 : Int)))] [] S
                refine sv_goto hM dX12_findText_72 (pc' := 31) rfl ?_
                obtain ⟨o20, h⟩ := h
                have hb := ih11 ((0 : Int), (l3_10 + (1 : Int)), ()) ⟨(⟨by decide, by decide⟩ : sv_R (0 : Int)), o20, ok13, h.1⟩ h.2
                exact sv_less (lv := [(0, .ref 0), (1, sv_I l1_1), (2, sv_I (0 : Int)), (3, sv_I (l3_10 + (1 : Int)))]) (sv_Sub_cons rfl (sv_Sub_cons rfl (sv_Sub_cons rfl (sv_Sub_cons rfl sv_Sub_nil)))) hb
              · have h := h.2 (hc)
                refine sv_iconst (d := (1 : Int)) hM dX12_findText_63 rfl rfl ?_
                refine sv_goto hM dX12_findText_64 (pc' := 68) rfl ?_
                refine sv_istore_n hM dX12_findText_68 (by decide) rfl ?_
                show sv_T sm_XS sm_cs sm_L sm_sh 0 (q_findText S) 5 69 [(0, .ref 0), (1, sv_I l1_1), (2, sv_I (1 : Int)), (3, sv_I l3_10)] [] S
                refine sv_iinc (d := (1 : Int)) hM dX12_findText_69 rfl (by decide) rfl rfl ?_
                show sv_T sm_XS sm_cs sm_L sm_sh 0 (q_findText S) 5 72 [(0, .ref 0), (1, sv_I l1_1), (2, sv_I (1 : Int)), (3, sv_I (l3_10 + (1 : Int)))] [] S
                refine sv_goto hM dX12_findText_72 (pc' := 31) rfl ?_
                obtain ⟨o21, h⟩ := h
                have hb := ih11 ((1 : Int), (l3_10 + (1 : Int)), ()) ⟨(⟨by decide, by decide⟩ : sv_R (1 : Int)), o21, ok13, h.1⟩ h.2
                exact sv_less (lv := [(0, .ref 0), (1, sv_I l1_1), (2, sv_I (1 : Int)), (3, sv_I (l3_10 + (1 : Int)))]) (sv_Sub_cons rfl (sv_Sub_cons rfl (sv_Sub_cons rfl (sv_Sub_cons rfl sv_Sub_nil)))) hb
        exact hJ ((0 : Int), (0 : Int), ()) ⟨(⟨by decide, by decide⟩ : sv_R (0 : Int)), (⟨by decide, by decide⟩ : sv_R (0 : Int)), ok4, hin12⟩
      · have h := h.2 (hc)
        refine sv_iconst (d := (1 : Int)) hM dX12_findText_23 rfl rfl ?_
        refine sv_goto hM dX12_findText_24 (pc' := 28) rfl ?_
        refine sv_istore_n hM dX12_findText_28 (by decide) rfl ?_
        show sv_T sm_XS sm_cs sm_L sm_sh 0 (q_findText S) 5 29 [(0, .ref 0), (1, sv_I l1_1), (2, sv_I (1 : Int))] [] S
        refine sv_iconst (d := (0 : Int)) hM dX12_findText_29 rfl rfl ?_
        refine sv_istore_n hM dX12_findText_30 (by decide) rfl ?_
        show sv_T sm_XS sm_cs sm_L sm_sh 0 (q_findText S) 5 31 [(0, .ref 0), (1, sv_I l1_1), (2, sv_I (1 : Int)), (3, sv_I (0 : Int))] [] S
        obtain ⟨hin25, h⟩ := h
        have hJ : ∀ a : Int × Int × Unit, (sv_R a.1 ∧ sv_R a.2.1 ∧ sm_ok S ∧ (0 ≤ a.2.1 ∧ a.2.1 ≤ (S 1011 0) ∧ 0 ≤ l1_1 ∧ l1_1 < (S 1007 0) ∧ (a.1 = 0 ∨ a.1 = 1) ∧ (a.1 = 1 → (S 4 l1_1) = (S 1011 0)))) → sv_T sm_XS sm_cs sm_L sm_sh 0 (q_findText S) 5 31 [(0, .ref 0), (1, sv_I l1_1), (2, sv_I a.1), (3, sv_I a.2.1)] [] S := by
          refine sv_loop (α := Int × Int × Unit) (fun a => sv_R a.1 ∧ sv_R a.2.1 ∧ sm_ok S ∧ (0 ≤ a.2.1 ∧ a.2.1 ≤ (S 1011 0) ∧ 0 ≤ l1_1 ∧ l1_1 < (S 1007 0) ∧ (a.1 = 0 ∨ a.1 = 1) ∧ (a.1 = 1 → (S 4 l1_1) = (S 1011 0)))) (fun a => (S 1011 0) - a.2.1) (fun a => sv_T sm_XS sm_cs sm_L sm_sh 0 (q_findText S) 5 31 [(0, .ref 0), (1, sv_I l1_1), (2, sv_I a.1), (3, sv_I a.2.1)] [] S) (fun a q => (h a.1 q.1 a.2.1 q.2.1 q.2.2.2).1) (fun a q ih24 => ?_)
          obtain ⟨l2_22, l3_23, _u⟩ := a
          obtain ⟨hl2_22, hl3_23, ok26, hin25i⟩ := q
          have h := (h l2_22 hl2_22 l3_23 hl3_23 hin25i).2
          show sv_T sm_XS sm_cs sm_L sm_sh 0 (q_findText S) 5 31 [(0, .ref 0), (1, sv_I l1_1), (2, sv_I l2_22), (3, sv_I l3_23)] [] S
          refine sv_iload_n hM dX12_findText_31 rfl rfl ?_
          refine sv_aload_n hM dX12_findText_32 rfl rfl ?_
          refine sv_getI hM dX12_findText_33 sm_fl_299 (sm_a0 _) sm_k11 rfl (x := (S 1011 0)) rfl ?_
          refine sv_icmp_ge hM dX12_findText_36 hl3_23 k8 (t := 75) rfl rfl (fun hc => ?_) (fun hc => ?_)
          · have h := h.1 (hc)
            refine sv_iload_n hM dX12_findText_75 rfl rfl ?_
            refine sv_cond_eq hM dX12_findText_76 hl2_22 (t := 81) rfl rfl (fun hc => ?_) (fun hc => ?_)
            · have h := h.1 (hc)
              refine sv_iinc (d := (1 : Int)) hM dX12_findText_81 rfl (by decide) rfl rfl ?_
              show sv_T sm_XS sm_cs sm_L sm_sh 0 (q_findText S) 5 84 [(0, .ref 0), (1, sv_I (l1_1 + (1 : Int))), (2, sv_I l2_22), (3, sv_I l3_23)] [] S
              refine sv_goto hM dX12_findText_84 (pc' := 2) rfl ?_
              obtain ⟨o27, h⟩ := h
              have hb := ih2 ((l1_1 + (1 : Int)), ()) ⟨o27, ok26, h.1⟩ h.2
              exact sv_less (lv := [(0, .ref 0), (1, sv_I (l1_1 + (1 : Int)))]) (sv_Sub_cons rfl (sv_Sub_cons rfl sv_Sub_nil)) hb
            · have h := h.2 (hc)
              refine sv_iload_n hM dX12_findText_79 rfl rfl ?_
              exact sv_iret hM dX12_findText_80 rfl rfl ⟨l1_1, rfl, hl1_1, ok26, sv_mod.rf, h⟩
          · have h := h.2 (hc)
            refine sv_iload_n hM dX12_findText_39 rfl rfl ?_
            refine sv_cond_eq hM dX12_findText_40 hl2_22 (t := 75) rfl rfl (fun hc => ?_) (fun hc => ?_)
            · have h := h.1 (hc)
              refine sv_iload_n hM dX12_findText_75 rfl rfl ?_
              refine sv_cond_eq hM dX12_findText_76 hl2_22 (t := 81) rfl rfl (fun hc => ?_) (fun hc => ?_)
              · have h := h.1 (hc)
                refine sv_iinc (d := (1 : Int)) hM dX12_findText_81 rfl (by decide) rfl rfl ?_
                show sv_T sm_XS sm_cs sm_L sm_sh 0 (q_findText S) 5 84 [(0, .ref 0), (1, sv_I (l1_1 + (1 : Int))), (2, sv_I l2_22), (3, sv_I l3_23)] [] S
                refine sv_goto hM dX12_findText_84 (pc' := 2) rfl ?_
                obtain ⟨o28, h⟩ := h
                have hb := ih2 ((l1_1 + (1 : Int)), ()) ⟨o28, ok26, h.1⟩ h.2
                exact sv_less (lv := [(0, .ref 0), (1, sv_I (l1_1 + (1 : Int)))]) (sv_Sub_cons rfl (sv_Sub_cons rfl sv_Sub_nil)) hb
              · have h := h.2 (hc)
                refine sv_iload_n hM dX12_findText_79 rfl rfl ?_
                exact sv_iret hM dX12_findText_80 rfl rfl ⟨l1_1, rfl, hl1_1, ok26, sv_mod.rf, h⟩
            · have h := h.2 (hc)
              refine sv_aload_n hM dX12_findText_43 rfl rfl ?_
              refine sv_getA hM dX12_findText_44 sm_fl_16 (sm_a0 _) sm_k5 rfl ?_
              refine sv_bipush (d := (60 : Int)) hM dX12_findText_47 rfl rfl ?_
              refine sv_iload_n hM dX12_findText_49 rfl rfl ?_
              refine sv_imul hM dX12_findText_50 rfl ?_
              refine sv_iload_n hM dX12_findText_51 rfl rfl ?_
              refine sv_iadd hM dX12_findText_52 rfl ?_
              obtain ⟨o29, h⟩ := h
              have k30 : (0 ≤ (S 3 (((60 : Int) * l1_1) + l3_23)) ∧ (S 3 (((60 : Int) * l1_1) + l3_23)) ≤ 65535) := sm_okC ok26 sm_r3 (((60 : Int) * l1_1) + l3_23)
              have h := h k30
              refine sv_cald hM dX12_findText_53 (sm_a3 _) (by decide) o29.1 o29.2 rfl (x := (S 3 (((60 : Int) * l1_1) + l3_23))) rfl ?_
              refine sv_aload_n hM dX12_findText_54 rfl rfl ?_
              refine sv_getA hM dX12_findText_55 sm_fl_24 (sm_a0 _) sm_k10 rfl ?_
              refine sv_iload_n hM dX12_findText_58 rfl rfl ?_
              obtain ⟨o31, h⟩ := h
              have k32 : (0 ≤ (S 5 l3_23) ∧ (S 5 l3_23) ≤ 65535) := sm_okC ok26 sm_r5 l3_23
              have h := h k32
              refine sv_cald hM dX12_findText_59 (sm_a5 _) (by decide) o31.1 o31.2 rfl (x := (S 5 l3_23)) rfl ?_
              refine sv_icmp_ne hM dX12_findText_60 (sv_RC k30) (sv_RC k32) (t := 67) rfl rfl (fun hc => ?_) (fun hc => ?_)
              · have h := h.1 (hc)
                refine sv_iconst (d := (0 : Int)) hM dX12_findText_67 rfl rfl ?_
                refine sv_istore_n hM dX12_findText_68 (by decide) rfl ?_
                show sv_T sm_XS sm_cs sm_L sm_sh 0 (q_findText S) 5 69 [(0, .ref 0), (1, sv_I l1_1), (2, sv_I (0 : Int)), (3, sv_I l3_23)] [] S
                refine sv_iinc (d := (1 : Int)) hM dX12_findText_69 rfl (by decide) rfl rfl ?_
                show sv_T sm_XS sm_cs sm_L sm_sh 0 (q_findText S) 5 72 [(0, .ref 0), (1, sv_I l1_1), (2, sv_I (0 : Int)), (3, sv_I (l3_23 + (1 : Int)))] [] S
                refine sv_goto hM dX12_findText_72 (pc' := 31) rfl ?_
                obtain ⟨o33, h⟩ := h
                have hb := ih24 ((0 : Int), (l3_23 + (1 : Int)), ()) ⟨(⟨by decide, by decide⟩ : sv_R (0 : Int)), o33, ok26, h.1⟩ h.2
                exact sv_less (lv := [(0, .ref 0), (1, sv_I l1_1), (2, sv_I (0 : Int)), (3, sv_I (l3_23 + (1 : Int)))]) (sv_Sub_cons rfl (sv_Sub_cons rfl (sv_Sub_cons rfl (sv_Sub_cons rfl sv_Sub_nil)))) hb
              · have h := h.2 (hc)
                refine sv_iconst (d := (1 : Int)) hM dX12_findText_63 rfl rfl ?_
                refine sv_goto hM dX12_findText_64 (pc' := 68) rfl ?_
                refine sv_istore_n hM dX12_findText_68 (by decide) rfl ?_
                show sv_T sm_XS sm_cs sm_L sm_sh 0 (q_findText S) 5 69 [(0, .ref 0), (1, sv_I l1_1), (2, sv_I (1 : Int)), (3, sv_I l3_23)] [] S
                refine sv_iinc (d := (1 : Int)) hM dX12_findText_69 rfl (by decide) rfl rfl ?_
                show sv_T sm_XS sm_cs sm_L sm_sh 0 (q_findText S) 5 72 [(0, .ref 0), (1, sv_I l1_1), (2, sv_I (1 : Int)), (3, sv_I (l3_23 + (1 : Int)))] [] S
                refine sv_goto hM dX12_findText_72 (pc' := 31) rfl ?_
                obtain ⟨o34, h⟩ := h
                have hb := ih24 ((1 : Int), (l3_23 + (1 : Int)), ()) ⟨(⟨by decide, by decide⟩ : sv_R (1 : Int)), o34, ok26, h.1⟩ h.2
                exact sv_less (lv := [(0, .ref 0), (1, sv_I l1_1), (2, sv_I (1 : Int)), (3, sv_I (l3_23 + (1 : Int)))]) (sv_Sub_cons rfl (sv_Sub_cons rfl (sv_Sub_cons rfl (sv_Sub_cons rfl sv_Sub_nil)))) hb
        exact hJ ((1 : Int), (0 : Int), ()) ⟨(⟨by decide, by decide⟩ : sv_R (1 : Int)), (⟨by decide, by decide⟩ : sv_R (0 : Int)), ok4, hin25⟩
  exact hJ ((0 : Int), ()) ⟨(⟨by decide, by decide⟩ : sv_R (0 : Int)), hok, hin3⟩
def q_addText (S : sv_S) : Option Value → sv_S → Prop := fun v S' => ∃ r : Int, v = some (sv_I r) ∧ sv_R r ∧ sm_ok S' ∧ sv_mod [3, 4, 1007] S S' ∧ (r = (S 1007 0) ∧ (S' 1007 0) = (S 1007 0) + 1 ∧ (S' 4 (S 1007 0)) = (S' 1011 0) ∧ (sm_LN (S 4) 400 (S 1007 0) → sm_LN (S' 4) 400 (S' 1007 0)))
theorem la_addText_0 {x0 : Int} (h0 : 0 ≤ x0) : (0 : Int) ≤ 0 ∧ 0 ≤ x0 := by omega
theorem la_addText_1 {x0 x1 : Int} (h0 : x0 ≤ x1) : 0 ≤ x1 - x0 := by omega
theorem la_addText_2 {x0 : Int} (h0 : 0 ≤ x0) (h1 : x0 < 400) : 0 ≤ x0 ∧ x0 < 400 := by omega
theorem la_addText_3 {x0 : Int} (h0 : 0 ≤ x0) (h1 : x0 < 400) : sv_R (x0 + 1) := by omega
theorem la_addText_4 {x0 : Int} (h0 : 0 ≤ x0) (h1 : x0 < 400) : sv_R (x0 + 1 - 1) := by omega
theorem la_addText_5 {x0 : Int} : x0 + 1 - 1 = x0 := by omega
theorem la_addText_6 {x0 : Int} : x0 + 1 = x0 + 1 := by omega
theorem la_addText_7 {x0 : Int} : x0 = x0 := by omega
theorem la_addText_8 {x0 x1 : Int} (h0 : 0 ≤ x0) (h1 : x0 ≤ 90) (h2 : 60 * x1 + x0 ≤ 24000) : 0 ≤ x0 ∧ x0 ≤ 90 ∧ 60 * x1 + x0 ≤ 24000 := by omega
theorem la_addText_9 {x0 : Int} : 1 ≤ x0 → 1 ≤ x0 := by omega
theorem la_addText_10 {x0 x1 : Int} (h0 : x0 ≤ 90) (h1 : 0 ≤ x1) (h2 : ¬ x0 ≤ x1) : 0 ≤ x1 ∧ x1 < 200 := by omega
theorem la_addText_11 {x0 x1 x2 : Int} (h0 : 0 ≤ x0) (h1 : 60 * x0 + x1 ≤ 24000) (h2 : 0 ≤ x2) (h3 : ¬ x1 ≤ x2) : 0 ≤ 60 * x0 + x2 ∧ 60 * x0 + x2 < 24000 := by omega
theorem la_addText_12 {x0 : Int} (h0 : 0 ≤ x0) (h1 : x0 ≤ 65535) : 0 ≤ x0 ∧ x0 ≤ 65535 := by omega
theorem la_addText_13 {x0 x1 : Int} (h0 : x0 ≤ 90) (h1 : 0 ≤ x1) (h2 : ¬ x0 ≤ x1) : sv_R (x1 + 1) := by omega
theorem la_addText_14 {x0 x1 : Int} (h0 : 0 ≤ x0) (h1 : ¬ x1 ≤ x0) : 0 ≤ x0 + 1 ∧ x0 + 1 ≤ x1 := by omega
theorem la_addText_15 {x0 x1 : Int} : x0 - (x1 + 1) < x0 - x1 := by omega
set_option maxHeartbeats 2000000 in
theorem f_addText : ∀ (S : sv_S), sm_ok S → (0 ≤ (S 1007 0) ∧ (S 1007 0) < 400 ∧ 0 ≤ (S 1011 0) ∧ (S 1011 0) ≤ 90 ∧ 60 * (S 1007 0) + (S 1011 0) ≤ 24000 ∧ ((S 1007 0) = 0 → (S 1011 0) = 6)) → ((0 ≤ (0 : Int) ∧ (0 : Int) ≤ (S 1011 0)) ∧ (∀ l1_2 : Int, sv_R l1_2 → ∀ g1 : sv_S, (0 ≤ l1_2 ∧ l1_2 ≤ (S 1011 0)) → (0 ≤ (S 1011 0) - l1_2) ∧ (sv_R (S 1011 0) → ((((S 1011 0) ≤ l1_2) → (sv_R (S 1007 0) → (0 ≤ (S 1007 0) ∧ (S 1007 0) < 400) ∧ (sv_R ((S 1007 0) + (1 : Int))) ∧ (sv_R (((S 1007 0) + (1 : Int)) - (1 : Int))) ∧ ((((S 1007 0) + (1 : Int)) - (1 : Int)) = (S 1007 0) ∧ ((S 1007 0) + (1 : Int)) = (S 1007 0) + 1 ∧ (if (S 1007 0) = (S 1007 0) then (S 1011 0) else (S 4 (S 1007 0))) = (S 1011 0) ∧ (sm_LN (S 4) 400 (S 1007 0) → sm_LN (fun i' : Int => if i' = (S 1007 0) then (S 1011 0) else (S 4) i') 400 ((S 1007 0) + (1 : Int)))))) ∧ ((¬ ((S 1011 0) ≤ l1_2)) → (sv_R (S 1007 0) → (0 ≤ l1_2 ∧ l1_2 < 200) ∧ ((0 ≤ (S 5 l1_2) ∧ (S 5 l1_2) ≤ 65535) → (0 ≤ (((60 : Int) * (S 1007 0)) + l1_2) ∧ (((60 : Int) * (S 1007 0)) + l1_2) < 24000) ∧ (0 ≤ (S 5 l1_2) ∧ (S 5 l1_2) ≤ 65535) ∧ (sv_R (l1_2 + (1 : Int))) ∧ ((0 ≤ (l1_2 + (1 : Int)) ∧ (l1_2 + (1 : Int)) ≤ (S 1011 0)) ∧ ((S 1011 0) - (l1_2 + (1 : Int))) < ((S 1011 0) - l1_2))))))))) := by
  intro S
  intro h1_
  rintro ⟨h2_, ⟨h3_, ⟨h4_, ⟨h5_, ⟨h6_, h7_⟩⟩⟩⟩⟩
  refine ⟨(la_addText_0 h4_), ?_⟩
  intro l1_2
  intro h8_
  intro g1
  rintro ⟨h9_, h10_⟩
  refine ⟨(la_addText_1 h10_), ?_⟩
  intro h11_
  refine ⟨?_, ?_⟩
  · skip
    intro h12_
    intro h13_
    refine ⟨(la_addText_2 h2_ h3_), ?_⟩
    refine ⟨(la_addText_3 h2_ h3_), ?_⟩
    refine ⟨(la_addText_4 h2_ h3_), ?_⟩
    refine ⟨la_addText_5, ?_⟩
    refine ⟨la_addText_6, ?_⟩
    refine ⟨?_, ?_⟩
    · skip
      have e14_ : (if S 1007 0 = S 1007 0 then S 1011 0 else S 4 (S 1007 0) : Int) = S 1011 0 := if_pos la_addText_7
      exact e14_
    intro h15_
    exact (sm_LN_up h15_ (la_addText_8 h4_ h5_ h6_) h2_ la_addText_9 h7_)
  intro h16_
  intro h17_
  refine ⟨(la_addText_10 h5_ h9_ h16_), ?_⟩
  rintro ⟨h18_, h19_⟩
  refine ⟨(la_addText_11 h2_ h6_ h9_ h16_), ?_⟩
  refine ⟨(la_addText_12 h18_ h19_), ?_⟩
  refine ⟨(la_addText_13 h5_ h9_ h16_), ?_⟩
  refine ⟨(la_addText_14 h9_ h16_), ?_⟩
  exact la_addText_15
set_option maxRecDepth 8000 in
set_option maxHeartbeats 2000000 in
theorem t_addText : ∀ (S : sv_S), sm_ok S → (0 ≤ (S 1007 0) ∧ (S 1007 0) < 400 ∧ 0 ≤ (S 1011 0) ∧ (S 1011 0) ≤ 90 ∧ 60 * (S 1007 0) + (S 1011 0) ≤ 24000 ∧ ((S 1007 0) = 0 → (S 1011 0) = 6)) → sv_T sm_XS sm_cs sm_L sm_sh 0 (q_addText S) 6 0 (lv_args 0 [.ref 0]) [] S := by
  intro S hok hpre
  have h := f_addText S hok hpre
  have hM := sm_h6
  show sv_T sm_XS sm_cs sm_L sm_sh 0 (q_addText S) 6 0 [(0, .ref 0)] [] S
  refine sv_iconst (d := (0 : Int)) hM dX12_addText_0 rfl rfl ?_
  refine sv_istore_n hM dX12_addText_1 (by decide) rfl ?_
  show sv_T sm_XS sm_cs sm_L sm_sh 0 (q_addText S) 6 2 [(0, .ref 0), (1, sv_I (0 : Int))] [] S
  obtain ⟨hin4, h⟩ := h
  have hJ : ∀ a : Int × sv_S, (sv_R a.1 ∧ sm_ok (sv_sts S [3] a.2) ∧ (0 ≤ a.1 ∧ a.1 ≤ (S 1011 0))) → sv_T sm_XS sm_cs sm_L sm_sh 0 (q_addText S) 6 2 [(0, .ref 0), (1, sv_I a.1)] [] (sv_sts S [3] a.2) := by
    refine sv_loop (α := Int × sv_S) (fun a => sv_R a.1 ∧ sm_ok (sv_sts S [3] a.2) ∧ (0 ≤ a.1 ∧ a.1 ≤ (S 1011 0))) (fun a => (S 1011 0) - a.1) (fun a => sv_T sm_XS sm_cs sm_L sm_sh 0 (q_addText S) 6 2 [(0, .ref 0), (1, sv_I a.1)] [] (sv_sts S [3] a.2)) (fun a q => (h a.1 q.1 a.2 q.2.2).1) (fun a q ih3 => ?_)
    obtain ⟨l1_2, g1⟩ := a
    obtain ⟨hl1_2, ok5, hin4i⟩ := q
    have h := (h l1_2 hl1_2 g1 hin4i).2
    show sv_T sm_XS sm_cs sm_L sm_sh 0 (q_addText S) 6 2 [(0, .ref 0), (1, sv_I l1_2)] [] (sv_sts S [3] g1)
    have md6 : sv_mod [3, 4, 1007] S (sv_sts S [3] g1) := sv_mod.sts sv_mod.rf (by decide)
    have md7 : sv_mod [3] S (sv_sts S [3] g1) := sv_mod.sts sv_mod.rf (by decide)
    refine sv_iload_n hM dX12_addText_2 rfl rfl ?_
    refine sv_aload_n hM dX12_addText_3 rfl rfl ?_
    have k8 : sv_R (S 1011 0) := sm_okI ok5 sm_r1011 0
    have h := h k8
    refine sv_getI hM dX12_addText_4 sm_fl_299 (sm_a0 _) sm_k11 rfl (x := (S 1011 0)) rfl ?_
    refine sv_icmp_ge hM dX12_addText_7 hl1_2 k8 (t := 36) rfl rfl (fun hc => ?_) (fun hc => ?_)
    · have h := h.1 (hc)
      refine sv_aload_n hM dX12_addText_36 rfl rfl ?_
      refine sv_getA hM dX12_addText_37 sm_fl_20 (sm_a0 _) sm_k6 rfl ?_
      refine sv_aload_n hM dX12_addText_40 rfl rfl ?_
      have k9 : sv_R (S 1007 0) := sm_okI ok5 sm_r1007 0
      have h := h k9
      refine sv_getI hM dX12_addText_41 sm_fl_296 (sm_a0 _) sm_k7 rfl (x := (S 1007 0)) rfl ?_
      refine sv_aload_n hM dX12_addText_44 rfl rfl ?_
      refine sv_getI hM dX12_addText_45 sm_fl_299 (sm_a0 _) sm_k11 rfl (x := (S 1011 0)) rfl ?_
      obtain ⟨o10, h⟩ := h
      refine sv_iast sm_X hM dX12_addText_48 (sm_a4 _) (by decide) o10.1 o10.2 rfl ?_
      have ok11 : sm_ok (sv_up (sv_sts S [3] g1) 4 (S 1007 0) (S 1011 0)) := sm_upI ok5 sm_r4 k8
      have md12 : sv_mod [3, 4, 1007] S (sv_up (sv_sts S [3] g1) 4 (S 1007 0) (S 1011 0)) := sv_mod.up md6 (by decide)
      refine sv_aload_n hM dX12_addText_49 rfl rfl ?_
      refine sv_dupA hM dX12_addText_50 rfl ?_
      refine sv_getI hM dX12_addText_51 sm_fl_296 (sm_a0 _) sm_k7 rfl (x := (S 1007 0)) rfl ?_
      refine sv_iconst (d := (1 : Int)) hM dX12_addText_54 rfl rfl ?_
      refine sv_iadd hM dX12_addText_55 rfl ?_
      obtain ⟨o13, h⟩ := h
      refine sv_putI sm_X hM dX12_addText_56 sm_fp_296 (sm_a0 _) sm_q7 (Or.inl rfl) rfl rfl rfl rfl ?_
      have ok14 : sm_ok (sv_up (sv_up (sv_sts S [3] g1) 4 (S 1007 0) (S 1011 0)) 1007 0 ((S 1007 0) + (1 : Int))) := sm_upI ok11 sm_r1007 o13
      have md15 : sv_mod [3, 4, 1007] S (sv_up (sv_up (sv_sts S [3] g1) 4 (S 1007 0) (S 1011 0)) 1007 0 ((S 1007 0) + (1 : Int))) := sv_mod.up md12 (by decide)
      refine sv_aload_n hM dX12_addText_59 rfl rfl ?_
      refine sv_getI hM dX12_addText_60 sm_fl_296 (sm_a0 _) sm_k7 rfl (x := ((S 1007 0) + (1 : Int))) rfl ?_
      refine sv_iconst (d := (1 : Int)) hM dX12_addText_63 rfl rfl ?_
      refine sv_isub hM dX12_addText_64 rfl ?_
      obtain ⟨o16, h⟩ := h
      exact sv_iret hM dX12_addText_65 rfl rfl ⟨(((S 1007 0) + (1 : Int)) - (1 : Int)), rfl, o16, ok14, md15, h⟩
    · have h := h.2 (hc)
      refine sv_aload_n hM dX12_addText_10 rfl rfl ?_
      refine sv_getA hM dX12_addText_11 sm_fl_16 (sm_a0 _) sm_k5 rfl ?_
      refine sv_bipush (d := (60 : Int)) hM dX12_addText_14 rfl rfl ?_
      refine sv_aload_n hM dX12_addText_16 rfl rfl ?_
      have k17 : sv_R (S 1007 0) := sm_okI ok5 sm_r1007 0
      have h := h k17
      refine sv_getI hM dX12_addText_17 sm_fl_296 (sm_a0 _) sm_k7 rfl (x := (S 1007 0)) rfl ?_
      refine sv_imul hM dX12_addText_20 rfl ?_
      refine sv_iload_n hM dX12_addText_21 rfl rfl ?_
      refine sv_iadd hM dX12_addText_22 rfl ?_
      refine sv_aload_n hM dX12_addText_23 rfl rfl ?_
      refine sv_getA hM dX12_addText_24 sm_fl_24 (sm_a0 _) sm_k10 rfl ?_
      refine sv_iload_n hM dX12_addText_27 rfl rfl ?_
      obtain ⟨o18, h⟩ := h
      have k19 : (0 ≤ (S 5 l1_2) ∧ (S 5 l1_2) ≤ 65535) := sm_okC ok5 sm_r5 l1_2
      have h := h k19
      refine sv_cald hM dX12_addText_28 (sm_a5 _) (by decide) o18.1 o18.2 rfl (x := (S 5 l1_2)) rfl ?_
      obtain ⟨o20, h⟩ := h
      obtain ⟨o21, h⟩ := h
      refine sv_cast sm_X hM dX12_addText_29 (sm_a3 _) (by decide) o20.1 o20.2 (sv_nnC o21) rfl ?_
      have ok22 : sm_ok (sv_up (sv_sts S [3] g1) 3 (((60 : Int) * (S 1007 0)) + l1_2) (S 5 l1_2)) := sm_upC ok5 sm_r3 o21
      have md23 : sv_mod [3, 4, 1007] S (sv_up (sv_sts S [3] g1) 3 (((60 : Int) * (S 1007 0)) + l1_2) (S 5 l1_2)) := sv_mod.up md6 (by decide)
      have md24 : sv_mod [3] S (sv_up (sv_sts S [3] g1) 3 (((60 : Int) * (S 1007 0)) + l1_2) (S 5 l1_2)) := sv_mod.up md7 (by decide)
      refine sv_iinc (d := (1 : Int)) hM dX12_addText_30 rfl (by decide) rfl rfl ?_
      show sv_T sm_XS sm_cs sm_L sm_sh 0 (q_addText S) 6 33 [(0, .ref 0), (1, sv_I (l1_2 + (1 : Int)))] [] (sv_up (sv_sts S [3] g1) 3 (((60 : Int) * (S 1007 0)) + l1_2) (S 5 l1_2))
      refine sv_goto hM dX12_addText_33 (pc' := 2) rfl ?_
      obtain ⟨o25, h⟩ := h
      have eS := sv_mod.eq md24
      have hb := ih3 ((l1_2 + (1 : Int)), (sv_up (sv_sts S [3] g1) 3 (((60 : Int) * (S 1007 0)) + l1_2) (S 5 l1_2))) ⟨o25, (by rw [← eS]; exact ok22), h.1⟩ h.2
      have hb : sv_T sm_XS sm_cs sm_L sm_sh 0 (q_addText S) 6 2 [(0, .ref 0), (1, sv_I (l1_2 + (1 : Int)))] [] (sv_up (sv_sts S [3] g1) 3 (((60 : Int) * (S 1007 0)) + l1_2) (S 5 l1_2)) := Eq.mpr (congrArg (fun Z => sv_T sm_XS sm_cs sm_L sm_sh 0 (q_addText S) 6 2 [(0, .ref 0), (1, sv_I (l1_2 + (1 : Int)))] [] Z) eS) hb
      exact sv_less (lv := [(0, .ref 0), (1, sv_I (l1_2 + (1 : Int)))]) (sv_Sub_cons rfl (sv_Sub_cons rfl sv_Sub_nil)) hb
  have eS := sv_mod.eq (sv_mod.rf (l := [3]) (S := S))
  have hb := hJ ((0 : Int), S) ⟨(⟨by decide, by decide⟩ : sv_R (0 : Int)), (by rw [← eS]; exact hok), hin4⟩
  have hb : sv_T sm_XS sm_cs sm_L sm_sh 0 (q_addText S) 6 2 [(0, .ref 0), (1, sv_I (0 : Int))] [] S := Eq.mpr (congrArg (fun Z => sv_T sm_XS sm_cs sm_L sm_sh 0 (q_addText S) 6 2 [(0, .ref 0), (1, sv_I (0 : Int))] [] Z) eS) hb
  exact hb
def q_put (p1 : Int) (S : sv_S) : Option Value → sv_S → Prop := fun v S' => v = none ∧ sm_ok S' ∧ sv_mod [5, 1011] S S' ∧ ((S' 1011 0) = (S 1011 0) + 1)
set_option maxHeartbeats 2000000 in
theorem f_put : ∀ (p1 : Int) (S : sv_S), sm_ok S → sv_R p1 → (0 ≤ (S 1011 0) ∧ (S 1011 0) < 200 ∧ 0 ≤ p1 ∧ p1 ≤ 65535) → (sv_R (S 1011 0) → (0 ≤ p1 ∧ p1 ≤ 65535) ∧ (0 ≤ (S 1011 0) ∧ (S 1011 0) < 200) ∧ (sv_R ((S 1011 0) + (1 : Int))) ∧ (((S 1011 0) + (1 : Int)) = (S 1011 0) + 1)) := by
  intro p1 S hok hp1 hpre
  repeat' (first | (with_reducible refine And.intro ?_ ?_) | (with_reducible intro _))
  all_goals first | assumption | omega | grind
set_option maxRecDepth 8000 in
set_option maxHeartbeats 2000000 in
theorem t_put : ∀ (p1 : Int) (S : sv_S), sm_ok S → sv_R p1 → (0 ≤ (S 1011 0) ∧ (S 1011 0) < 200 ∧ 0 ≤ p1 ∧ p1 ≤ 65535) → sv_T sm_XS sm_cs sm_L sm_sh 0 (q_put p1 S) 7 0 (lv_args 0 [.ref 0, sv_I p1]) [] S := by
  intro p1 S hok hp1 hpre
  have h := f_put p1 S hok hp1 hpre
  have hM := sm_h7
  show sv_T sm_XS sm_cs sm_L sm_sh 0 (q_put p1 S) 7 0 [(0, .ref 0), (1, sv_I p1)] [] S
  refine sv_aload_n hM dX12_put_0 rfl rfl ?_
  refine sv_getA hM dX12_put_1 sm_fl_24 (sm_a0 _) sm_k10 rfl ?_
  refine sv_aload_n hM dX12_put_4 rfl rfl ?_
  have k1 : sv_R (S 1011 0) := sm_okI hok sm_r1011 0
  have h := h k1
  refine sv_getI hM dX12_put_5 sm_fl_299 (sm_a0 _) sm_k11 rfl (x := (S 1011 0)) rfl ?_
  refine sv_iload_n hM dX12_put_8 rfl rfl ?_
  obtain ⟨o2, h⟩ := h
  refine sv_i2c hM dX12_put_9 o2 rfl ?_
  obtain ⟨o3, h⟩ := h
  refine sv_cast sm_X hM dX12_put_10 (sm_a5 _) (by decide) o3.1 o3.2 (sv_nnC o2) rfl ?_
  have ok4 : sm_ok (sv_up S 5 (S 1011 0) p1) := sm_upC hok sm_r5 o2
  have md5 : sv_mod [5, 1011] S (sv_up S 5 (S 1011 0) p1) := sv_mod.up sv_mod.rf (by decide)
  refine sv_aload_n hM dX12_put_11 rfl rfl ?_
  refine sv_dupA hM dX12_put_12 rfl ?_
  refine sv_getI hM dX12_put_13 sm_fl_299 (sm_a0 _) sm_k11 rfl (x := (S 1011 0)) rfl ?_
  refine sv_iconst (d := (1 : Int)) hM dX12_put_16 rfl rfl ?_
  refine sv_iadd hM dX12_put_17 rfl ?_
  obtain ⟨o6, h⟩ := h
  refine sv_putI sm_X hM dX12_put_18 sm_fp_299 (sm_a0 _) sm_q11 (Or.inl rfl) rfl rfl rfl rfl ?_
  have ok7 : sm_ok (sv_up (sv_up S 5 (S 1011 0) p1) 1011 0 ((S 1011 0) + (1 : Int))) := sm_upI ok4 sm_r1011 o6
  have md8 : sv_mod [5, 1011] S (sv_up (sv_up S 5 (S 1011 0) p1) 1011 0 ((S 1011 0) + (1 : Int))) := sv_mod.up md5 (by decide)
  exact sv_vret hM dX12_put_21 rfl ⟨rfl, ok7, md8, h⟩
def q_nameOfText (S : sv_S) : Option Value → sv_S → Prop := fun v S' => ∃ r : Int, v = some (sv_I r) ∧ sv_R r ∧ sm_ok S' ∧ sv_mod [3, 4, 1007, 1009] S S' ∧ ((S 1007 0) ≤ (S' 1007 0) ∧ (S' 1007 0) ≤ 90 ∧ sm_LN (S' 4) 400 (S' 1007 0) ∧ (r = -1 ∨ (0 ≤ r ∧ r < (S' 1007 0))) ∧ (r = -1 → (S' 1009 0) = 1) ∧ ((S 1009 0) = 1 → (S' 1009 0) = 1))
theorem la_nameOfText_0 {x0 : Int} (h0 : 1 ≤ x0) : 0 ≤ x0 := by omega
theorem la_nameOfText_1 {x0 : Int} (h0 : x0 ≤ 90) : x0 ≤ 400 := by omega
theorem la_nameOfText_2 {x0 : Int} (h0 : 0 ≤ x0) (h1 : x0 ≤ 90) : 0 ≤ x0 ∧ x0 ≤ 200 := by omega
theorem la_nameOfText_3 {x0 : Int} (h0 : 0 ≤ x0) : (-1) ≤ x0 := by omega
theorem la_nameOfText_4 {x0 : Int} (h0 : (-1) ≤ x0) (h1 : ¬ x0 = (-1)) : (-1) < x0 := by omega
theorem la_nameOfText_5 {x0 : Int} : x0 ≤ x0 := by omega
theorem la_nameOfText_6 {x0 x1 : Int} (h0 : 0 ≤ x0) (h1 : x0 < x1) : x0 = (-1) ∨ 0 ≤ x0 ∧ x0 < x1 := by omega
theorem la_nameOfText_7 {x0 x1 : Int} (h0 : (-1) < x0) : x0 = (-1) → x1 = 1 := by omega
theorem la_nameOfText_8 {x0 x1 x2 x3 : Int} (h0 : ¬ ¬ x0 = (-1)) : ¬ (0 ≤ x0 ∧ x0 < x1 ∧ x2 = x3) := by omega
theorem la_nameOfText_9 {x0 : Int} (h0 : x0 ≤ 90) (h1 : ¬ x0 = 90) : x0 < 90 := by omega
theorem la_nameOfText_10 {x0 x1 : Int} (h0 : 1 ≤ x0) (h1 : 0 ≤ x1) (h2 : x1 ≤ 90) (h3 : x0 < 90) : 0 ≤ x0 ∧ x0 < 400 ∧ 0 ≤ x1 ∧ x1 ≤ 90 ∧ 60 * x0 + x1 ≤ 24000 ∧ (x0 = 0 → x1 = 6) := by omega
theorem la_nameOfText_11 {x0 x1 : Int} (h0 : x0 = x1 + 1) : x1 ≤ x0 := by omega
theorem la_nameOfText_12 {x0 x1 : Int} (h0 : x0 < 90) (h1 : x1 = x0 + 1) : x1 ≤ 90 := by omega
theorem la_nameOfText_13 {x0 x1 x2 : Int} (h0 : 1 ≤ x0) (h1 : x1 = x0) (h2 : x2 = x0 + 1) : x1 = (-1) ∨ 0 ≤ x1 ∧ x1 < x2 := by omega
theorem la_nameOfText_14 {x0 x1 : Int} (h0 : 1 ≤ x0) (h1 : x1 = x0) : x1 = (-1) → (0 : Int) = 1 := by omega
theorem la_nameOfText_15 {x0 : Int} (h0 : x0 < 90) : x0 < 400 := by omega
theorem la_nameOfText_16 {x0 : Int} (h0 : x0 = 0) (h1 : x0 = 1) : False := by omega
theorem la_nameOfText_17 : (0 : Int) ≤ 0 := by omega
theorem la_nameOfText_18 (h0 : (0 : Int) ≤ 0) (h1 : ¬ (0 : Int) = 0) : (0 : Int) < 0 := by omega
theorem la_nameOfText_19 {x0 : Int} : ((-1) : Int) = (-1) ∨ (0 : Int) ≤ (-1) ∧ (-1) < x0 := by omega
theorem la_nameOfText_20 (h0 : (0 : Int) < 0) : ((-1) : Int) = (-1) → (0 : Int) = 1 := by omega
theorem la_nameOfText_21 (h0 : (0 : Int) < 0) : (0 : Int) = 1 := by omega
theorem la_nameOfText_22 {x0 x1 : Int} (h0 : (1 : Int) = 0) : 0 ≤ x0 ∧ x0 < 400 ∧ 0 ≤ x1 ∧ x1 ≤ 90 ∧ 60 * x0 + x1 ≤ 24000 ∧ (x0 = 0 → x1 = 6) := by omega
theorem la_nameOfText_23 {x0 x1 : Int} (h0 : (1 : Int) = 0) : x0 ≤ x1 := by omega
theorem la_nameOfText_24 {x0 : Int} (h0 : (1 : Int) = 0) : x0 ≤ 90 := by omega
theorem la_nameOfText_25 {x0 x1 : Int} (h0 : (1 : Int) = 0) : x0 = (-1) ∨ 0 ≤ x0 ∧ x0 < x1 := by omega
theorem la_nameOfText_26 {x0 : Int} : x0 = (-1) → (1 : Int) = 1 := by omega
theorem la_nameOfText_27 : (1 : Int) = 1 := by omega
theorem la_nameOfText_28 : (0 : Int) ≤ 1 := by omega
theorem la_nameOfText_29 (h0 : (0 : Int) ≤ 1) (h1 : ¬ (1 : Int) = 0) : (0 : Int) < 1 := by omega
theorem la_nameOfText_30 : ((-1) : Int) = (-1) → (1 : Int) = 1 := by omega
theorem la_nameOfText_31 {x0 : Int} (h0 : 0 ≤ x0) (h1 : ¬ x0 = 0) : 0 < x0 := by omega
theorem la_nameOfText_32 {x0 x1 : Int} (h0 : 1 ≤ x0) (h1 : ¬ ¬ x1 = (-1)) : x1 = (-1) ∨ 0 ≤ x1 ∧ x1 < x0 := by omega
theorem la_nameOfText_33 {x0 x1 : Int} (h0 : x0 ≤ 1) (h1 : 0 < x0) : x1 = (-1) → x0 = 1 := by omega
set_option maxHeartbeats 2000000 in
theorem f_nameOfText : ∀ (S : sv_S), sm_ok S → (1 ≤ (S 1007 0) ∧ (S 1007 0) ≤ 90 ∧ sm_LN (S 4) 400 (S 1007 0) ∧ 0 ≤ (S 1011 0) ∧ (S 1011 0) ≤ 90) → (0 ≤ (S 1007 0) ∧ (S 1007 0) ≤ 400 ∧ sm_LN (S 4) 400 (S 1007 0) ∧ 0 ≤ (S 1011 0) ∧ (S 1011 0) ≤ 200) ∧ (∀ r6 : Int, sv_R r6 → (r6 = -1 ∨ (0 ≤ r6 ∧ r6 < (S 1007 0) ∧ (S 4 r6) = (S 1011 0))) → (((¬ r6 = (-1 : Int)) → ((S 1007 0) ≤ (S 1007 0) ∧ (S 1007 0) ≤ 90 ∧ sm_LN (S 4) 400 (S 1007 0) ∧ (r6 = -1 ∨ (0 ≤ r6 ∧ r6 < (S 1007 0))) ∧ (r6 = -1 → (S 1009 0) = 1) ∧ ((S 1009 0) = 1 → (S 1009 0) = 1))) ∧ ((¬ (¬ r6 = (-1 : Int))) → ((0 ≤ (S 1009 0) ∧ (S 1009 0) ≤ 1) → ((((S 1009 0) = (0 : Int)) → (sv_R (S 1007 0) → (((¬ (S 1007 0) = (90 : Int)) → ((((0 : Int) = (0 : Int)) → (0 ≤ (S 1007 0) ∧ (S 1007 0) < 400 ∧ 0 ≤ (S 1011 0) ∧ (S 1011 0) ≤ 90 ∧ 60 * (S 1007 0) + (S 1011 0) ≤ 24000 ∧ ((S 1007 0) = 0 → (S 1011 0) = 6)) ∧ (∀ r16 : Int, sv_R r16 → ∀ g12 : sv_S, (r16 = (S 1007 0) ∧ (g12 1007 0) = (S 1007 0) + 1 ∧ (g12 4 (S 1007 0)) = (S 1011 0) ∧ (sm_LN (S 4) 400 (S 1007 0) → sm_LN (g12 4) 400 (g12 1007 0))) → ((S 1007 0) ≤ (g12 1007 0) ∧ (g12 1007 0) ≤ 90 ∧ sm_LN (g12 4) 400 (g12 1007 0) ∧ (r16 = -1 ∨ (0 ≤ r16 ∧ r16 < (g12 1007 0))) ∧ (r16 = -1 → (0 : Int) = 1) ∧ ((S 1009 0) = 1 → (0 : Int) = 1)))) ∧ ((¬ ((0 : Int) = (0 : Int))) → ((S 1007 0) ≤ (S 1007 0) ∧ (S 1007 0) ≤ 90 ∧ sm_LN (S 4) 400 (S 1007 0) ∧ ((-1 : Int) = -1 ∨ (0 ≤ (-1 : Int) ∧ (-1 : Int) < (S 1007 0))) ∧ ((-1 : Int) = -1 → (0 : Int) = 1) ∧ ((S 1009 0) = 1 → (0 : Int) = 1))))) ∧ ((¬ (¬ (S 1007 0) = (90 : Int))) → ((((1 : Int) = (0 : Int)) → (0 ≤ (S 1007 0) ∧ (S 1007 0) < 400 ∧ 0 ≤ (S 1011 0) ∧ (S 1011 0) ≤ 90 ∧ 60 * (S 1007 0) + (S 1011 0) ≤ 24000 ∧ ((S 1007 0) = 0 → (S 1011 0) = 6)) ∧ (∀ r25 : Int, sv_R r25 → ∀ g21 : sv_S, (r25 = (S 1007 0) ∧ (g21 1007 0) = (S 1007 0) + 1 ∧ (g21 4 (S 1007 0)) = (S 1011 0) ∧ (sm_LN (S 4) 400 (S 1007 0) → sm_LN (g21 4) 400 (g21 1007 0))) → ((S 1007 0) ≤ (g21 1007 0) ∧ (g21 1007 0) ≤ 90 ∧ sm_LN (g21 4) 400 (g21 1007 0) ∧ (r25 = -1 ∨ (0 ≤ r25 ∧ r25 < (g21 1007 0))) ∧ (r25 = -1 → (1 : Int) = 1) ∧ ((S 1009 0) = 1 → (1 : Int) = 1)))) ∧ ((¬ ((1 : Int) = (0 : Int))) → ((S 1007 0) ≤ (S 1007 0) ∧ (S 1007 0) ≤ 90 ∧ sm_LN (S 4) 400 (S 1007 0) ∧ ((-1 : Int) = -1 ∨ (0 ≤ (-1 : Int) ∧ (-1 : Int) < (S 1007 0))) ∧ ((-1 : Int) = -1 → (1 : Int) = 1) ∧ ((S 1009 0) = 1 → (1 : Int) = 1)))))))) ∧ ((¬ ((S 1009 0) = (0 : Int))) → ((S 1007 0) ≤ (S 1007 0) ∧ (S 1007 0) ≤ 90 ∧ sm_LN (S 4) 400 (S 1007 0) ∧ (r6 = -1 ∨ (0 ≤ r6 ∧ r6 < (S 1007 0))) ∧ (r6 = -1 → (S 1009 0) = 1) ∧ ((S 1009 0) = 1 → (S 1009 0) = 1)))))))) := by
  intro S
  intro h1_
  rintro ⟨h2_, ⟨h3_, ⟨h4_, ⟨h5_, h6_⟩⟩⟩⟩
  refine ⟨⟨(la_nameOfText_0 h2_), ⟨(la_nameOfText_1 h3_), ⟨h4_, (la_nameOfText_2 h5_ h6_)⟩⟩⟩, ?_⟩
  intro r6
  intro h7_
  intro h8_
  refine ⟨?_, ?_⟩
  · skip
    intro h9_
    obtain ⟨h10_, ⟨h11_, h12_⟩⟩ := (h8_.resolve_left h9_)
    refine ⟨la_nameOfText_5, ?_⟩
    refine ⟨h3_, ?_⟩
    refine ⟨h4_, ?_⟩
    refine ⟨(la_nameOfText_6 h10_ h11_), ?_⟩
    refine ⟨(la_nameOfText_7 (la_nameOfText_4 (la_nameOfText_3 h10_) h9_)), ?_⟩
    intro h13_
    exact h13_
  intro h14_
  have h15_ := (h8_.resolve_right (la_nameOfText_8 h14_))
  rintro ⟨h16_, h17_⟩
  refine ⟨?_, ?_⟩
  · skip
    intro h18_
    intro h19_
    refine ⟨?_, ?_⟩
    · skip
      intro h20_
      refine ⟨?_, ?_⟩
      · skip
        intro h21_
        refine ⟨(la_nameOfText_10 h2_ h5_ h6_ (la_nameOfText_9 h3_ h20_)), ?_⟩
        intro r16
        intro h22_
        intro g12
        rintro ⟨h23_, ⟨h24_, ⟨h25_, h26_⟩⟩⟩
        have h27_ := (h26_ h4_)
        refine ⟨(la_nameOfText_11 h24_), ?_⟩
        refine ⟨(la_nameOfText_12 (la_nameOfText_9 h3_ h20_) h24_), ?_⟩
        refine ⟨h27_, ?_⟩
        refine ⟨(la_nameOfText_13 h2_ h23_ h24_), ?_⟩
        refine ⟨(la_nameOfText_14 h2_ h23_), ?_⟩
        intro h28_
        exact ((la_nameOfText_16 h18_ h28_)).elim
      intro h29_
      refine ⟨la_nameOfText_5, ?_⟩
      refine ⟨h3_, ?_⟩
      refine ⟨h4_, ?_⟩
      refine ⟨la_nameOfText_19, ?_⟩
      refine ⟨(la_nameOfText_20 (la_nameOfText_18 la_nameOfText_17 h29_)), ?_⟩
      intro h30_
      exact (la_nameOfText_21 (la_nameOfText_18 la_nameOfText_17 h29_))
    intro h31_
    refine ⟨?_, ?_⟩
    · skip
      intro h32_
      refine ⟨(la_nameOfText_22 h32_), ?_⟩
      intro r25
      intro h33_
      intro g21
      rintro ⟨h34_, ⟨h35_, ⟨h36_, h37_⟩⟩⟩
      have h38_ := (h37_ h4_)
      refine ⟨(la_nameOfText_23 h32_), ?_⟩
      refine ⟨(la_nameOfText_24 h32_), ?_⟩
      refine ⟨h38_, ?_⟩
      refine ⟨(la_nameOfText_25 h32_), ?_⟩
      refine ⟨la_nameOfText_26, ?_⟩
      intro h39_
      exact la_nameOfText_27
    intro h40_
    refine ⟨la_nameOfText_5, ?_⟩
    refine ⟨h3_, ?_⟩
    refine ⟨h4_, ?_⟩
    refine ⟨la_nameOfText_19, ?_⟩
    refine ⟨la_nameOfText_30, ?_⟩
    intro h41_
    exact la_nameOfText_27
  intro h42_
  refine ⟨la_nameOfText_5, ?_⟩
  refine ⟨h3_, ?_⟩
  refine ⟨h4_, ?_⟩
  refine ⟨(la_nameOfText_32 h2_ h14_), ?_⟩
  refine ⟨(la_nameOfText_33 h17_ (la_nameOfText_31 h16_ h42_)), ?_⟩
  intro h43_
  exact h43_
set_option maxRecDepth 8000 in
set_option maxHeartbeats 2000000 in
theorem t_nameOfText : ∀ (S : sv_S), sm_ok S → (1 ≤ (S 1007 0) ∧ (S 1007 0) ≤ 90 ∧ sm_LN (S 4) 400 (S 1007 0) ∧ 0 ≤ (S 1011 0) ∧ (S 1011 0) ≤ 90) → sv_T sm_XS sm_cs sm_L sm_sh 1 (q_nameOfText S) 8 0 (lv_args 0 [.ref 0]) [] S := by
  intro S hok hpre
  have h := f_nameOfText S hok hpre
  have hM := sm_h8
  show sv_T sm_XS sm_cs sm_L sm_sh 1 (q_nameOfText S) 8 0 [(0, .ref 0)] [] S
  refine sv_aload_n hM dX12_nameOfText_0 rfl rfl ?_
  obtain ⟨o1, h⟩ := h
  refine sv_callV hM dX12_nameOfText_1 sm_iv_302 (by decide) (sm_a0 _) rfl rfl (Nat.le_of_ble_eq_true rfl) sm_h5 (Nat.le_of_ble_eq_true rfl) (Nat.le_of_ble_eq_true rfl) (F' := 0) (Nat.le_of_ble_eq_true rfl) rfl (t_findText  S hok o1) (fun v S1 hq => ?_)
  obtain ⟨r6, rfl, hr6, ok3, md4, hpo5⟩ := hq
  obtain rfl : S = S1 := (funext fun j => md4 j (by intro q; cases q)).symm
  show sv_T sm_XS sm_cs sm_L sm_sh 1 (q_nameOfText S) 8 4 [(0, .ref 0)] [sv_I r6] S
  have h := h r6 hr6 hpo5
  refine sv_istore_n hM dX12_nameOfText_4 (by decide) rfl ?_
  show sv_T sm_XS sm_cs sm_L sm_sh 1 (q_nameOfText S) 8 5 [(0, .ref 0), (1, sv_I r6)] [] S
  refine sv_iload_n hM dX12_nameOfText_5 rfl rfl ?_
  refine sv_iconst (d := (-1 : Int)) hM dX12_nameOfText_6 rfl rfl ?_
  refine sv_icmp_ne hM dX12_nameOfText_7 hr6 (⟨by decide, by decide⟩ : sv_R (-1 : Int)) (t := 17) rfl rfl (fun hc => ?_) (fun hc => ?_)
  · have h := h.1 (hc)
    refine sv_iload_n hM dX12_nameOfText_17 rfl rfl ?_
    exact sv_iret hM dX12_nameOfText_18 rfl rfl ⟨r6, rfl, hr6, ok3, sv_mod.rf, h⟩
  · have h := h.2 (hc)
    refine sv_aload_n hM dX12_nameOfText_10 rfl rfl ?_
    have k7 : (0 ≤ (S 1009 0) ∧ (S 1009 0) ≤ 1) := sm_okZ ok3 sm_r1009 0
    have h := h k7
    refine sv_getI hM dX12_nameOfText_11 sm_fl_306 (sm_a0 _) sm_k9 rfl (x := (S 1009 0)) rfl ?_
    refine sv_cond_eq hM dX12_nameOfText_14 (sv_R01 k7) (t := 19) rfl rfl (fun hc => ?_) (fun hc => ?_)
    · have h := h.1 (hc)
      refine sv_aload_n hM dX12_nameOfText_19 rfl rfl ?_
      refine sv_aload_n hM dX12_nameOfText_20 rfl rfl ?_
      have k8 : sv_R (S 1007 0) := sm_okI ok3 sm_r1007 0
      have h := h k8
      refine sv_getI hM dX12_nameOfText_21 sm_fl_296 (sm_a0 _) sm_k7 rfl (x := (S 1007 0)) rfl ?_
      refine sv_bipush (d := (90 : Int)) hM dX12_nameOfText_24 rfl rfl ?_
      refine sv_icmp_ne hM dX12_nameOfText_26 k8 (⟨by decide, by decide⟩ : sv_R (90 : Int)) (t := 33) rfl rfl (fun hc => ?_) (fun hc => ?_)
      · have h := h.1 (hc)
        refine sv_iconst (d := (0 : Int)) hM dX12_nameOfText_33 rfl rfl ?_
        refine sv_putI sm_X hM dX12_nameOfText_34 sm_fp_306 (sm_a0 _) sm_q9 (Or.inr rfl) rfl (sv_nz (⟨by decide, by decide⟩ : 0 ≤ (0 : Int) ∧ (0 : Int) ≤ 1)) (sv_fz (⟨by decide, by decide⟩ : 0 ≤ (0 : Int) ∧ (0 : Int) ≤ 1)) rfl ?_
        have ok9 : sm_ok (sv_up S 1009 0 (0 : Int)) := sm_upZ ok3 sm_r1009 (⟨by decide, by decide⟩ : 0 ≤ (0 : Int) ∧ (0 : Int) ≤ 1)
        have md10 : sv_mod [3, 4, 1007, 1009] S (sv_up S 1009 0 (0 : Int)) := sv_mod.up sv_mod.rf (by decide)
        refine sv_aload_n hM dX12_nameOfText_37 rfl rfl ?_
        refine sv_getI hM dX12_nameOfText_38 sm_fl_306 (sm_a0 _) sm_k9 rfl (x := (0 : Int)) rfl ?_
        refine sv_cond_eq hM dX12_nameOfText_41 (⟨by decide, by decide⟩ : sv_R (0 : Int)) (t := 48) rfl rfl (fun hc => ?_) (fun hc => ?_)
        · have h := h.1 (hc)
          refine sv_aload_n hM dX12_nameOfText_48 rfl rfl ?_
          obtain ⟨o11, h⟩ := h
          refine sv_callV hM dX12_nameOfText_49 sm_iv_310 (by decide) (sm_a0 _) rfl rfl (Nat.le_of_ble_eq_true rfl) sm_h6 (Nat.le_of_ble_eq_true rfl) (Nat.le_of_ble_eq_true rfl) (F' := 0) (Nat.le_of_ble_eq_true rfl) rfl (t_addText  (sv_up S 1009 0 (0 : Int)) ok9 o11) (fun v S1 hq => ?_)
          obtain ⟨r16, rfl, hr16, ok13, md14, hpo15⟩ := hq
          obtain ⟨g12, rfl⟩ : ∃ g, S1 = sv_sts (sv_up S 1009 0 (0 : Int)) [3, 4, 1007] g := ⟨_, md14.eq⟩
          show sv_T sm_XS sm_cs sm_L sm_sh 1 (q_nameOfText S) 8 52 [(0, .ref 0), (1, sv_I r6)] [sv_I r16] (sv_sts (sv_up S 1009 0 (0 : Int)) [3, 4, 1007] g12)
          have md17 : sv_mod [3, 4, 1007, 1009] S (sv_sts (sv_up S 1009 0 (0 : Int)) [3, 4, 1007] g12) := sv_mod.sts md10 (by decide)
          have h := h r16 hr16 g12 hpo15
          exact sv_iret hM dX12_nameOfText_52 rfl rfl ⟨r16, rfl, hr16, ok13, md17, h⟩
        · have h := h.2 (hc)
          refine sv_iconst (d := (-1 : Int)) hM dX12_nameOfText_44 rfl rfl ?_
          refine sv_goto hM dX12_nameOfText_45 (pc' := 52) rfl ?_
          exact sv_iret hM dX12_nameOfText_52 rfl rfl ⟨(-1 : Int), rfl, (⟨by decide, by decide⟩ : sv_R (-1 : Int)), ok9, md10, h⟩
      · have h := h.2 (hc)
        refine sv_iconst (d := (1 : Int)) hM dX12_nameOfText_29 rfl rfl ?_
        refine sv_goto hM dX12_nameOfText_30 (pc' := 34) rfl ?_
        refine sv_putI sm_X hM dX12_nameOfText_34 sm_fp_306 (sm_a0 _) sm_q9 (Or.inr rfl) rfl (sv_nz (⟨by decide, by decide⟩ : 0 ≤ (1 : Int) ∧ (1 : Int) ≤ 1)) (sv_fz (⟨by decide, by decide⟩ : 0 ≤ (1 : Int) ∧ (1 : Int) ≤ 1)) rfl ?_
        have ok18 : sm_ok (sv_up S 1009 0 (1 : Int)) := sm_upZ ok3 sm_r1009 (⟨by decide, by decide⟩ : 0 ≤ (1 : Int) ∧ (1 : Int) ≤ 1)
        have md19 : sv_mod [3, 4, 1007, 1009] S (sv_up S 1009 0 (1 : Int)) := sv_mod.up sv_mod.rf (by decide)
        refine sv_aload_n hM dX12_nameOfText_37 rfl rfl ?_
        refine sv_getI hM dX12_nameOfText_38 sm_fl_306 (sm_a0 _) sm_k9 rfl (x := (1 : Int)) rfl ?_
        refine sv_cond_eq hM dX12_nameOfText_41 (⟨by decide, by decide⟩ : sv_R (1 : Int)) (t := 48) rfl rfl (fun hc => ?_) (fun hc => ?_)
        · have h := h.1 (hc)
          refine sv_aload_n hM dX12_nameOfText_48 rfl rfl ?_
          obtain ⟨o20, h⟩ := h
          refine sv_callV hM dX12_nameOfText_49 sm_iv_310 (by decide) (sm_a0 _) rfl rfl (Nat.le_of_ble_eq_true rfl) sm_h6 (Nat.le_of_ble_eq_true rfl) (Nat.le_of_ble_eq_true rfl) (F' := 0) (Nat.le_of_ble_eq_true rfl) rfl (t_addText  (sv_up S 1009 0 (1 : Int)) ok18 o20) (fun v S1 hq => ?_)
          obtain ⟨r25, rfl, hr25, ok22, md23, hpo24⟩ := hq
          obtain ⟨g21, rfl⟩ : ∃ g, S1 = sv_sts (sv_up S 1009 0 (1 : Int)) [3, 4, 1007] g := ⟨_, md23.eq⟩
          show sv_T sm_XS sm_cs sm_L sm_sh 1 (q_nameOfText S) 8 52 [(0, .ref 0), (1, sv_I r6)] [sv_I r25] (sv_sts (sv_up S 1009 0 (1 : Int)) [3, 4, 1007] g21)
          have md26 : sv_mod [3, 4, 1007, 1009] S (sv_sts (sv_up S 1009 0 (1 : Int)) [3, 4, 1007] g21) := sv_mod.sts md19 (by decide)
          have h := h r25 hr25 g21 hpo24
          exact sv_iret hM dX12_nameOfText_52 rfl rfl ⟨r25, rfl, hr25, ok22, md26, h⟩
        · have h := h.2 (hc)
          refine sv_iconst (d := (-1 : Int)) hM dX12_nameOfText_44 rfl rfl ?_
          refine sv_goto hM dX12_nameOfText_45 (pc' := 52) rfl ?_
          exact sv_iret hM dX12_nameOfText_52 rfl rfl ⟨(-1 : Int), rfl, (⟨by decide, by decide⟩ : sv_R (-1 : Int)), ok18, md19, h⟩
    · have h := h.2 (hc)
      refine sv_iload_n hM dX12_nameOfText_17 rfl rfl ?_
      exact sv_iret hM dX12_nameOfText_18 rfl rfl ⟨r6, rfl, hr6, ok3, sv_mod.rf, h⟩
