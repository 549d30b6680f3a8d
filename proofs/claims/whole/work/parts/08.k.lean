theorem wd_lt (a b : Int32) : a.toInt64 < b.toInt64 ↔ a < b := by rw [Int64.lt_iff_toInt_lt, Int32.lt_iff_toInt_lt, Int32.toInt_toInt64, Int32.toInt_toInt64]
theorem wd_le (a b : Int32) : a.toInt64 ≤ b.toInt64 ↔ a ≤ b := by rw [Int64.le_iff_toInt_le, Int32.le_iff_toInt_le, Int32.toInt_toInt64, Int32.toInt_toInt64]
theorem cmp_n {x y : Int64} (h : x < y) : lg_cmp x y = -1 := by
  have h1 : ¬ x > y := fun q => absurd (Int64.lt_iff_toInt_lt.mp h) (by have := Int64.lt_iff_toInt_lt.mp q; omega)
  have h2 : ¬ x = y := fun q => by rw [q] at h; exact absurd (Int64.lt_iff_toInt_lt.mp h) (by omega)
  unfold lg_cmp
  rw [if_neg h1, if_neg h2]
theorem cmp_p {x y : Int64} (h : y < x) : lg_cmp x y = 1 := if_pos h
theorem cmp_z {x : Int64} : lg_cmp x x = 0 := by
  have h1 : ¬ x > x := fun q => absurd (Int64.lt_iff_toInt_lt.mp q) (by omega)
  unfold lg_cmp
  rw [if_neg h1, if_pos rfl]
theorem cmp_lt (x y : Int64) : (lg_cmp x y < 0) = (x < y) := by
  refine propext ⟨fun h => ?_, fun h => by rw [cmp_n h]; decide⟩
  by_cases a : y < x
  · rw [cmp_p a] at h; exact absurd h (by decide)
  · by_cases b : x = y
    · rw [b, cmp_z] at h; exact absurd h (by decide)
    · refine Int64.lt_iff_toInt_lt.mpr ?_
      have a1 : ¬ y.toInt < x.toInt := fun q => a (Int64.lt_iff_toInt_lt.mpr q)
      have b1 : ¬ x.toInt = y.toInt := fun q => b (Int64.toInt_inj.mp q)
      omega
theorem cmp_gt (x y : Int64) : (0 < lg_cmp x y) = (y < x) := by
  refine propext ⟨fun h => ?_, fun h => by rw [cmp_p h]; decide⟩
  by_cases a : y < x
  · exact a
  · by_cases b : x = y
    · rw [b, cmp_z] at h; exact absurd h (by decide)
    · have c : x < y := by
        refine Int64.lt_iff_toInt_lt.mpr ?_
        have a1 : ¬ y.toInt < x.toInt := fun q => a (Int64.lt_iff_toInt_lt.mpr q)
        have b1 : ¬ x.toInt = y.toInt := fun q => b (Int64.toInt_inj.mp q)
        omega
      rw [cmp_n c] at h
      exact absurd h (by decide)
theorem mJ_sJ_o {σ : Mem} {a j : Nat} {v : Int64} {x : Nat} (h : x ≠ a) : mJ (sJ σ a j v) x = mJ σ x := up2_a _ _ h
theorem mJ_sJ_j {σ : Mem} {a j : Nat} {v : Int64} {x y : Nat} (h : y ≠ j) : mJ (sJ σ a j v) x y = mJ σ x y := up2_n _ _ (fun q => h q.2)
theorem mJ_sJ_e {σ : Mem} {a j : Nat} {v : Int64} : mJ (sJ σ a j v) a j = v := up2_s _ _ _ _
theorem shF.arrs {c : Mem} {q : Nat} (h : shF c q) : mK c q = 3 ∧ mR c q 5 = some (q + 1) ∧ mR c q 6 = some (q + 2) ∧ mR c q 7 = some (q + 3) ∧ mR c q 8 = some (q + 4) ∧ mR c q 9 = some (q + 5) ∧ mR c q 10 = some (q + 6) ∧ mR c q 11 = some (q + 7) ∧ mR c q 12 = some (q + 8) ∧ mR c q 13 = some (q + 9) ∧ mK c (q + 1) = 22 ∧ mK c (q + 2) = 22 ∧ mK c (q + 3) = 22 ∧ mK c (q + 4) = 22 ∧ mK c (q + 5) = 22 ∧ mK c (q + 6) = 22 ∧ mK c (q + 7) = 22 ∧ mK c (q + 8) = 23 ∧ mK c (q + 9) = 23 ∧ mL c (q + 1) = 8 ∧ mL c (q + 2) = 8 ∧ mL c (q + 3) = 8 ∧ mL c (q + 4) = 40 ∧ mL c (q + 5) = 40 ∧ mL c (q + 6) = 40 ∧ mL c (q + 7) = 40 ∧ mL c (q + 8) = 40 ∧ mL c (q + 9) = 40 := by
  unfold shF at h
  simp only [h, and_self]
/-- setTime -/
def stT (c : Mem) (q k l : Nat) : Mem := sJ (sJ c (q + 9) k (tLow (mI c (q + 1) l) (mI c (q + 3) l) (mI c (q + 6) k))) (q + 8) k (tUp (mI c (q + 1) l) (mI c (q + 2) l) (mI c (q + 3) l) (mI c (q + 6) k))
theorem e_setTime (F : Nat) {c : Mem} {q : Nat} (hs : shF c q) {k l : Nat} (hk : k < 40) (hl : l < 8) : f_X2_setTime F c q (nI k) (nI l) = some ((), stT c q k l) := by
  have hA := hs.arrs
  have g1 : ¬ nI k < 0 := nI_pos (by omega)
  have g2 : ¬ (40 : Int32) ≤ nI k := nI_ge (b := 40) hk (by decide)
  have g3 : ¬ nI l < 0 := nI_pos (by omega)
  have g4 : nI l < (8 : Int32) := nI_lt (b := 8) hl (by decide)
  have v1 := vp_nI hk (show 40 < 2147483648 by decide)
  have v2 := vp_nI hl (show 8 < 2147483648 by decide)
  have n1 := nI_cl (show k < 2147483648 by omega)
  have n2 := nI_cl (show l < 2147483648 by omega)
  have q89 : ¬ q + 9 = q + 8 := by omega
  have q98 : ¬ q + 8 = q + 9 := by omega
  by_cases a : mI c (q + 6) k < mI c (q + 1) l
  · have t0 : tLow (mI c (q + 1) l) (mI c (q + 3) l) (mI c (q + 6) k) = 0 := by
      unfold tLow
      rw [if_neg (fun z => absurd a (Int32.not_lt.mpr z.1))]
    simp only [f_X2_setTime, f_X2_setTime_b62, f_X2_setTime_b63, f_X2_setTime_b88, stT, tUp, t0, hA, g1, g2, g3, g4, v1, v2, n1, n2, cmp_lt, cmp_gt, wd_lt, a, nx_eq, ck_true, br_true, br_false, bd_eq, de_eq, mN_sI_, mK_sI_, mL_sI_, mI_sI_ap, mJ_sI_, mR_sI_, mN_sJ_, mK_sJ_, mL_sJ_, mI_sJ_, mJ_sJ_ap, mR_sJ_, mN_sR_, mK_sR_, mL_sR_, mI_sR_, mJ_sR_, mR_sR_ap, Nat.reduceEqDiff, Nat.reduceAdd, ↓reduceIte, and_true, true_and, and_false, false_and, or_true, true_or, or_false, false_or, not_true_eq_false, not_false_eq_true, i10, i01, ii01, ii02, ii03, ii04, ii05, ii12, ii13, ii14, ii15, ii20, ii21, ii23, ii24, ii25, ii30, ii31, ii32, ii34, ii35, ii40, ii41, ii42, ii43, ii45, ii50, ii51, ii52, ii53, ii54, bi_z, Option.some.injEq, reduceCtorEq, Nat.reduceLeDiff]
  · by_cases b : mI c (q + 3) l < mI c (q + 6) k
    · have t0 : tLow (mI c (q + 1) l) (mI c (q + 3) l) (mI c (q + 6) k) = 0 := by
        unfold tLow
        rw [if_neg (fun z => absurd b (Int32.not_lt.mpr z.2))]
      simp only [f_X2_setTime, f_X2_setTime_b62, f_X2_setTime_b63, f_X2_setTime_b88, stT, tUp, t0, hA, g1, g2, g3, g4, v1, v2, n1, n2, cmp_lt, cmp_gt, wd_lt, a, b, nx_eq, ck_true, br_true, br_false, bd_eq, de_eq, mN_sI_, mK_sI_, mL_sI_, mI_sI_ap, mJ_sI_, mR_sI_, mN_sJ_, mK_sJ_, mL_sJ_, mI_sJ_, mJ_sJ_ap, mR_sJ_, mN_sR_, mK_sR_, mL_sR_, mI_sR_, mJ_sR_, mR_sR_ap, Nat.reduceEqDiff, Nat.reduceAdd, ↓reduceIte, and_true, true_and, and_false, false_and, or_true, true_or, or_false, false_or, not_true_eq_false, not_false_eq_true, i10, i01, ii01, ii02, ii03, ii04, ii05, ii12, ii13, ii14, ii15, ii20, ii21, ii23, ii24, ii25, ii30, ii31, ii32, ii34, ii35, ii40, ii41, ii42, ii43, ii45, ii50, ii51, ii52, ii53, ii54, bi_z, Option.some.injEq, reduceCtorEq, Nat.reduceLeDiff]
    · have t0 : tLow (mI c (q + 1) l) (mI c (q + 3) l) (mI c (q + 6) k) = (mI c (q + 3) l).toInt64 - (mI c (q + 1) l).toInt64 := by
        unfold tLow
        rw [if_pos ⟨Int32.not_lt.mp a, Int32.not_lt.mp b⟩]
      simp only [f_X2_setTime, f_X2_setTime_b62, f_X2_setTime_b63, f_X2_setTime_b88, stT, tUp, t0, hA, g1, g2, g3, g4, v1, v2, n1, n2, cmp_lt, cmp_gt, wd_lt, a, b, nx_eq, ck_true, br_true, br_false, bd_eq, de_eq, mN_sI_, mK_sI_, mL_sI_, mI_sI_ap, mJ_sI_, mR_sI_, mN_sJ_, mK_sJ_, mL_sJ_, mI_sJ_, mJ_sJ_ap, mR_sJ_, mN_sR_, mK_sR_, mL_sR_, mI_sR_, mJ_sR_, mR_sR_ap, Nat.reduceEqDiff, Nat.reduceAdd, ↓reduceIte, and_true, true_and, and_false, false_and, or_true, true_or, or_false, false_or, not_true_eq_false, not_false_eq_true, i10, i01, ii01, ii02, ii03, ii04, ii05, ii12, ii13, ii14, ii15, ii20, ii21, ii23, ii24, ii25, ii30, ii31, ii32, ii34, ii35, ii40, ii41, ii42, ii43, ii45, ii50, ii51, ii52, ii53, ii54, bi_z, Option.some.injEq, reduceCtorEq, Nat.reduceLeDiff]
