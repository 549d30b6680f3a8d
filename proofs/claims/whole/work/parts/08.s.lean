/-! numbers of 64 bits and Euclid's way -/
theorem pf_lI {a : Nat} (h : a < 2 ^ 63) : (lN a).toInt = (a : Int) := pk_lT h
theorem pf_shr {a d : Nat} {D : Int64} (hD : (D.toBitVec.smod 64).toNat = d) (h : a < 2 ^ 62) : lN a >>> D = lN (a / 2 ^ d) := by
  have hd : a / 2 ^ d ≤ a := Nat.div_le_self _ _
  apply Int64.toInt_inj.mp
  have e : (lN a >>> D).toInt = (lN a).toInt >>> d := by
    rw [← hD]
    exact BitVec.toInt_sshiftRight ..
  rw [e, Int.shiftRight_eq_div_pow, pf_lI (by omega), pf_lI (by omega)]
  rfl
theorem fb_andL (a b : Nat) : lN a &&& lN b = lN (a &&& b) := by
  apply Int64.toBitVec_inj.1
  show BitVec.ofNat 64 a &&& BitVec.ofNat 64 b = BitVec.ofNat 64 (a &&& b)
  apply BitVec.eq_of_getLsbD_eq
  intro i hi
  simp [hi]
theorem lN_shr30 {a : Nat} (h : a < 4611686018427387904) : lN a >>> ((30 : Int32).toInt64 &&& 63) = lN (a / 1073741824) := pf_shr (d := 30) (by decide) h
theorem lN_msk (a : Nat) : lN a &&& (1073741823 : Int64) = lN (a % 1073741824) := by
  show lN a &&& lN (2 ^ 30 - 1) = lN (a % 2 ^ 30)
  rw [fb_andL, Nat.and_two_pow_sub_one_eq_mod]
theorem cmp_eq0 (x y : Int64) : (lg_cmp x y = 0) = (x = y) := by
  refine propext ⟨fun h => ?_, fun h => by rw [h, cmp_z]⟩
  by_cases a : y < x
  · rw [cmp_p a] at h; exact absurd h (by decide)
  · by_cases b : x = y
    · exact b
    · have c : x < y := by
        refine Int64.lt_iff_toInt_lt.mpr ?_
        have a1 : ¬ y.toInt < x.toInt := fun q => a (Int64.lt_iff_toInt_lt.mpr q)
        have b1 : ¬ x.toInt = y.toInt := fun q => b (Int64.toInt_inj.mp q)
        omega
      rw [cmp_n c] at h
      exact absurd h (by decide)
theorem cmp_le0 (x y : Int64) : (lg_cmp x y ≤ 0) = (x ≤ y) := by
  have e : (lg_cmp x y ≤ 0) = ¬ (0 < lg_cmp x y) := propext Int32.not_lt.symm
  have e2 : (x ≤ y) = ¬ (y < x) := propext Int64.not_lt.symm
  rw [e, e2, cmp_gt]
theorem cmp_ge0 (x y : Int64) : (0 ≤ lg_cmp x y) = (y ≤ x) := by
  have e : (0 ≤ lg_cmp x y) = ¬ (lg_cmp x y < 0) := propext Int32.not_lt.symm
  have e2 : (y ≤ x) = ¬ (x < y) := propext Int64.not_lt.symm
  rw [e, e2, cmp_lt]
theorem lNlt {a b : Nat} (ha : a < 9223372036854775808) (hb : b < 9223372036854775808) : (lN a < lN b) = (a < b) := propext (pk_lLT ha hb)
theorem lNle {a b : Nat} (ha : a < 9223372036854775808) (hb : b < 9223372036854775808) : (lN a ≤ lN b) = (a ≤ b) := propext (pk_lLE ha hb)
theorem lNeq {a b : Nat} (ha : a < 9223372036854775808) (hb : b < 9223372036854775808) : (lN a = lN b) = (a = b) := propext (pk_lEQ ha hb)
theorem lN0 : (0 : Int64) = lN 0 := rfl
/-- Euclid's way ends within n steps -/
def eG : Nat → Nat → Nat → Prop
  | 0, _, l => l = 0
  | n + 1, u, l => l = 0 ∨ eG n l (u % l)
def fibo : Nat → Nat
  | 0 => 0
  | 1 => 1
  | n + 2 => fibo n + fibo (n + 1)
theorem eG_fib : ∀ n u l, ¬ eG n u l → l ≤ u → fibo (n + 1) ≤ l ∧ fibo (n + 2) ≤ u := by
  intro n
  induction n with
  | zero =>
    intro u l h hl
    have h0 : ¬ l = 0 := h
    have e1 : fibo (0 + 1) = 1 := rfl
    have e2 : fibo (0 + 2) = 1 := rfl
    rw [e1, e2]
    omega
  | succ n ih =>
    intro u l h hl
    have h0 : ¬ l = 0 := fun e => h (Or.inl e)
    have h1 : ¬ eG n l (u % l) := fun e => h (Or.inr e)
    have hm : u % l < l := Nat.mod_lt _ (by omega)
    obtain ⟨a, b⟩ := ih l (u % l) h1 (by omega)
    have e3 : fibo (n + 1 + 2) = fibo (n + 1) + fibo (n + 2) := rfl
    have d := Nat.div_add_mod u l
    have p : 0 < u / l := Nat.div_pos hl (by omega)
    have m := Nat.le_mul_of_pos_right l p
    rw [e3]
    exact ⟨b, by omega⟩
theorem fibo_8 (n : Nat) : fibo (n + 8) = 13 * fibo n + 21 * fibo (n + 1) := by
  have e2 : fibo (n + 2) = fibo n + fibo (n + 1) := rfl
  have e3 : fibo (n + 3) = fibo (n + 1) + fibo (n + 2) := rfl
  have e4 : fibo (n + 4) = fibo (n + 2) + fibo (n + 3) := rfl
  have e5 : fibo (n + 5) = fibo (n + 3) + fibo (n + 4) := rfl
  have e6 : fibo (n + 6) = fibo (n + 4) + fibo (n + 5) := rfl
  have e7 : fibo (n + 7) = fibo (n + 5) + fibo (n + 6) := rfl
  have e8 : fibo (n + 8) = fibo (n + 6) + fibo (n + 7) := rfl
  omega
theorem fibo_mono (n : Nat) : fibo n ≤ fibo (n + 1) := by
  cases n with
  | zero => exact Nat.zero_le _
  | succ n =>
    have e : fibo (n + 1 + 1) = fibo n + fibo (n + 1) := rfl
    rw [e]
    omega
theorem fibo_pw (k : Nat) : 5 * 34 ^ k ≤ fibo (5 + 8 * k) := by
  induction k with
  | zero => decide
  | succ k ih =>
    have e : 5 + 8 * (k + 1) = (5 + 8 * k) + 8 := by omega
    have m := fibo_mono (5 + 8 * k)
    rw [e, fibo_8, Nat.pow_succ]
    omega
theorem eG_100 (u : Nat) {l : Nat} (hl : l < 9223372036854775808) : eG 100 u l := by
  by_cases h0 : l = 0
  · exact Or.inl h0
  · refine Or.inr (Classical.byContradiction fun h => ?_)
    have hm : u % l < l := Nat.mod_lt _ (by omega)
    have a := (eG_fib 99 l (u % l) h (by omega)).2
    have b := fibo_pw 12
    have e : fibo (99 + 2) = fibo (5 + 8 * 12) := rfl
    have d : 9223372036854775808 ≤ 5 * 34 ^ 12 := by decide
    omega
theorem gcd_st {u l : Nat} : Nat.gcd l (u % l) = Nat.gcd u l := by
  rw [Nat.gcd_comm l (u % l), ← Nat.gcd_rec, Nat.gcd_comm]
theorem lp_cd (F : Nat) (σ : Mem) : ∀ n u l M, eG n u l → n ≤ 100 → u < 9223372036854775808 → l < 9223372036854775808 → n < M → f_X10_commonDivisor_b9 F M σ (lN u) (lN l) (nI (100 - n)) = some (lN (Nat.gcd u l), σ) := by
  intro n
  induction n with
  | zero =>
    intro u l M h hn hu hl hM
    obtain ⟨M, rfl⟩ : ∃ M', M = M' + 1 := ⟨M - 1, by omega⟩
    have h0 : l = 0 := h
    subst h0
    show f_X10_commonDivisor_b9_it F (f_X10_commonDivisor_b9 F M) σ (lN u) (lN 0) (nI (100 - 0)) = _
    have g : (100 : Int32) ≤ nI (100 - 0) := nI_le (a := 100) (b := 100) (by decide) (by decide)
    rw [Nat.gcd_zero_right]
    simp only [f_X10_commonDivisor_b9_it, f_X10_commonDivisor_b44, g, nx_eq, ck_true, br_true, br_false, bd_eq, de_eq, mN_sI_, mK_sI_, mL_sI_, mI_sI_ap, mJ_sI_, mR_sI_, mN_sJ_, mK_sJ_, mL_sJ_, mI_sJ_, mJ_sJ_ap, mR_sJ_, mN_sR_, mK_sR_, mL_sR_, mI_sR_, mJ_sR_, mR_sR_ap, Nat.reduceEqDiff, Nat.reduceAdd, ↓reduceIte, and_true, true_and, and_false, false_and, or_true, true_or, or_false, false_or, not_true_eq_false, not_false_eq_true, i10, i01, ii01, ii02, ii03, ii04, ii05, ii12, ii13, ii14, ii15, ii20, ii21, ii23, ii24, ii25, ii30, ii31, ii32, ii34, ii35, ii40, ii41, ii42, ii43, ii45, ii50, ii51, ii52, ii53, ii54, bi_z, Option.some.injEq, reduceCtorEq, Nat.reduceLeDiff]
  | succ n ih =>
    intro u l M h hn hu hl hM
    obtain ⟨M, rfl⟩ : ∃ M', M = M' + 1 := ⟨M - 1, by omega⟩
    show f_X10_commonDivisor_b9_it F (f_X10_commonDivisor_b9 F M) σ (lN u) (lN l) (nI (100 - (n + 1))) = _
    have g : ¬ (100 : Int32) ≤ nI (100 - (n + 1)) := nI_ge (b := 100) (by omega) (by decide)
    by_cases h0 : l = 0
    · subst h0
      rw [Nat.gcd_zero_right]
      simp only [f_X10_commonDivisor_b9_it, f_X10_commonDivisor_b44, g, cmp_eq0, lN0, nx_eq, ck_true, br_true, br_false, bd_eq, de_eq, mN_sI_, mK_sI_, mL_sI_, mI_sI_ap, mJ_sI_, mR_sI_, mN_sJ_, mK_sJ_, mL_sJ_, mI_sJ_, mJ_sJ_ap, mR_sJ_, mN_sR_, mK_sR_, mL_sR_, mI_sR_, mJ_sR_, mR_sR_ap, Nat.reduceEqDiff, Nat.reduceAdd, ↓reduceIte, and_true, true_and, and_false, false_and, or_true, true_or, or_false, false_or, not_true_eq_false, not_false_eq_true, i10, i01, ii01, ii02, ii03, ii04, ii05, ii12, ii13, ii14, ii15, ii20, ii21, ii23, ii24, ii25, ii30, ii31, ii32, ii34, ii35, ii40, ii41, ii42, ii43, ii45, ii50, ii51, ii52, ii53, ii54, bi_z, Option.some.injEq, reduceCtorEq, Nat.reduceLeDiff]
    · have h1 : eG n l (u % l) := h.resolve_left h0
      have hm : u % l < l := Nat.mod_lt _ (by omega)
      have z : (lN l = lN 0) = (l = 0) := lNeq hl (by decide)
      have z2 : ¬ lN l = lN 0 := by rw [z]; exact h0
      have r := pk_lRem hu (show 0 < l by omega) hl
      have s : nI (100 - (n + 1)) + 1 = nI (100 - n) := by rw [nI_1]; exact congrArg nI (by omega)
      simp only [f_X10_commonDivisor_b9_it, g, cmp_eq0, lN0, z2, r, s, nx_eq, ck_true, br_true, br_false, bd_eq, de_eq, mN_sI_, mK_sI_, mL_sI_, mI_sI_ap, mJ_sI_, mR_sI_, mN_sJ_, mK_sJ_, mL_sJ_, mI_sJ_, mJ_sJ_ap, mR_sJ_, mN_sR_, mK_sR_, mL_sR_, mI_sR_, mJ_sR_, mR_sR_ap, Nat.reduceEqDiff, Nat.reduceAdd, ↓reduceIte, and_true, true_and, and_false, false_and, or_true, true_or, or_false, false_or, not_true_eq_false, not_false_eq_true, i10, i01, ii01, ii02, ii03, ii04, ii05, ii12, ii13, ii14, ii15, ii20, ii21, ii23, ii24, ii25, ii30, ii31, ii32, ii34, ii35, ii40, ii41, ii42, ii43, ii45, ii50, ii51, ii52, ii53, ii54, bi_z, Option.some.injEq, reduceCtorEq, Nat.reduceLeDiff]
      rw [ih l (u % l) M h1 (by omega) hl (by omega) (by omega), gcd_st]
theorem e_cd (F : Nat) (hF : 101 ≤ F) (σ : Mem) {u l : Nat} (hu : u < 9223372036854775808) (hl : l < 9223372036854775808) : f_X10_commonDivisor F σ (lN u) (lN l) = some (lN (Nat.gcd u l), σ) :=
  lp_cd F σ 100 u l F (eG_100 u hl) (by omega) hu hl hF
theorem lp_ht (F : Nat) {σ : Mem} (hK : mK σ 50 = 11) {U L : Nat} (e50 : mJ σ 50 50 = lN U) (e51 : mJ σ 50 51 = lN L) (hU : U < 9223372036854775808) (hL : L < 9223372036854775808) : ∀ n u l M, eG n u l → u < 9223372036854775808 → l < 9223372036854775808 → n < M → 0 < Nat.gcd u l → f_X11_hasTime_b163 F 50 M σ (lN u) (lN l) = some (1, sJ (sJ σ 50 50 (lN (U / Nat.gcd u l))) 50 51 (lN (L / Nat.gcd u l))) := by
  have fin : ∀ u K, u < 9223372036854775808 → 0 < u → f_X11_hasTime_b163_it F K 50 σ (lN u) (lN 0) = some (1, sJ (sJ σ 50 50 (lN (U / u))) 50 51 (lN (L / u))) := by
    intro u K hu h0
    have z : ¬ lN u = lN 0 := by rw [lNeq hu (by decide)]; omega
    have n50 : ¬ (51 : Nat) = 50 := by decide
    simp only [f_X11_hasTime_b163_it, cmp_eq0, lN0, hK, z, e50, e51, n50, pk_lDiv hU h0 hu, pk_lDiv hL h0 hu, nx_eq, ck_true, br_true, br_false, bd_eq, de_eq, mN_sI_, mK_sI_, mL_sI_, mI_sI_ap, mJ_sI_, mR_sI_, mN_sJ_, mK_sJ_, mL_sJ_, mI_sJ_, mJ_sJ_ap, mR_sJ_, mN_sR_, mK_sR_, mL_sR_, mI_sR_, mJ_sR_, mR_sR_ap, Nat.reduceEqDiff, Nat.reduceAdd, ↓reduceIte, and_true, true_and, and_false, false_and, or_true, true_or, or_false, false_or, not_true_eq_false, not_false_eq_true, i10, i01, ii01, ii02, ii03, ii04, ii05, ii12, ii13, ii14, ii15, ii20, ii21, ii23, ii24, ii25, ii30, ii31, ii32, ii34, ii35, ii40, ii41, ii42, ii43, ii45, ii50, ii51, ii52, ii53, ii54, bi_z, Option.some.injEq, reduceCtorEq, Nat.reduceLeDiff]
  intro n
  induction n with
  | zero =>
    intro u l M h hu hl hM hg
    obtain ⟨M, rfl⟩ : ∃ M', M = M' + 1 := ⟨M - 1, by omega⟩
    have h0 : l = 0 := h
    subst h0
    rw [Nat.gcd_zero_right] at hg ⊢
    exact fin u _ hu hg
  | succ n ih =>
    intro u l M h hu hl hM hg
    obtain ⟨M, rfl⟩ : ∃ M', M = M' + 1 := ⟨M - 1, by omega⟩
    by_cases h0 : l = 0
    · subst h0
      rw [Nat.gcd_zero_right] at hg ⊢
      exact fin u _ hu hg
    · show f_X11_hasTime_b163_it F (f_X11_hasTime_b163 F 50 M) 50 σ (lN u) (lN l) = _
      have h1 : eG n l (u % l) := h.resolve_left h0
      have hm : u % l < l := Nat.mod_lt _ (by omega)
      have z2 : ¬ lN l = lN 0 := by rw [lNeq hl (by decide)]; exact h0
      have r := pk_lRem hu (show 0 < l by omega) hl
      simp only [f_X11_hasTime_b163_it, cmp_eq0, lN0, z2, r, nx_eq, ck_true, br_true, br_false, bd_eq, de_eq, mN_sI_, mK_sI_, mL_sI_, mI_sI_ap, mJ_sI_, mR_sI_, mN_sJ_, mK_sJ_, mL_sJ_, mI_sJ_, mJ_sJ_ap, mR_sJ_, mN_sR_, mK_sR_, mL_sR_, mI_sR_, mJ_sR_, mR_sR_ap, Nat.reduceEqDiff, Nat.reduceAdd, ↓reduceIte, and_true, true_and, and_false, false_and, or_true, true_or, or_false, false_or, not_true_eq_false, not_false_eq_true, i10, i01, ii01, ii02, ii03, ii04, ii05, ii12, ii13, ii14, ii15, ii20, ii21, ii23, ii24, ii25, ii30, ii31, ii32, ii34, ii35, ii40, ii41, ii42, ii43, ii45, ii50, ii51, ii52, ii53, ii54, bi_z, Option.some.injEq, reduceCtorEq, Nat.reduceLeDiff]
      have := ih l (u % l) M h1 hl (by omega) (by omega) (by rw [gcd_st]; exact hg)
      rw [gcd_st] at this
      exact this
/-- 1, 0 or -1 as x is above, at or below y -/
def cmpN (x y : Nat) : Int32 := if y < x then 1 else if x < y then -1 else 0
theorem cmpN_gt {x y : Nat} (h : y < x) : cmpN x y = 1 := if_pos h
theorem cmpN_lt {x y : Nat} (h : x < y) : cmpN x y = -1 := by unfold cmpN; rw [if_neg (by omega), if_pos h]
theorem cmpN_eq {x y : Nat} (h : x = y) : cmpN x y = 0 := by unfold cmpN; rw [if_neg (by omega), if_neg (by omega)]
def sgN (s x : Int32) : Int32 := if x = 0 then 0 else if x = 1 then s else -s
theorem sgN_neg {s : Int32} (hs : s = 1 ∨ s = -1) (x y : Nat) : sgN (-s) (cmpN x y) = sgN s (cmpN y x) := by
  rcases Nat.lt_trichotomy x y with h | h | h
  · rw [cmpN_lt h, cmpN_gt h]; rcases hs with rfl | rfl <;> decide
  · rw [cmpN_eq h, cmpN_eq h.symm]; rcases hs with rfl | rfl <;> decide
  · rw [cmpN_gt h, cmpN_lt h]; rcases hs with rfl | rfl <;> decide
theorem sgN_1 (x y : Nat) : sgN 1 (cmpN x y) = cmpN x y := by
  rcases Nat.lt_trichotomy x y with h | h | h
  · rw [cmpN_lt h]; decide
  · rw [cmpN_eq h]; decide
  · rw [cmpN_gt h]; decide
theorem cf_end (F : Nat) (σ : Mem) {a b c d : Nat} {s : Int32} (hb : b < 9223372036854775808) (hd : d < 9223372036854775808) (h1 : 0 < a ∨ 0 < b) (h2 : 0 < c ∨ 0 < d) (h0 : b = 0 ∨ d = 0) : f_X10_compareFractions_b116 F σ (lN b) (lN d) s = some (sgN s (cmpN (a * d) (c * b)), σ) := by
  by_cases e : b = 0
  · by_cases e2 : d = 0
    · subst e e2
      rw [cmpN_eq (by omega)]
      simp only [f_X10_compareFractions_b116, cmp_eq0, lN0, sgN, nx_eq, ck_true, br_true, br_false, bd_eq, de_eq, mN_sI_, mK_sI_, mL_sI_, mI_sI_ap, mJ_sI_, mR_sI_, mN_sJ_, mK_sJ_, mL_sJ_, mI_sJ_, mJ_sJ_ap, mR_sJ_, mN_sR_, mK_sR_, mL_sR_, mI_sR_, mJ_sR_, mR_sR_ap, Nat.reduceEqDiff, Nat.reduceAdd, ↓reduceIte, and_true, true_and, and_false, false_and, or_true, true_or, or_false, false_or, not_true_eq_false, not_false_eq_true, i10, i01, ii01, ii02, ii03, ii04, ii05, ii12, ii13, ii14, ii15, ii20, ii21, ii23, ii24, ii25, ii30, ii31, ii32, ii34, ii35, ii40, ii41, ii42, ii43, ii45, ii50, ii51, ii52, ii53, ii54, bi_z, Option.some.injEq, reduceCtorEq, Nat.reduceLeDiff]
    · subst e
      have p : 0 < a * d := Nat.mul_pos (by omega) (by omega)
      rw [cmpN_gt (by omega)]
      have z : ¬ lN 0 = lN d := by rw [lNeq (by decide) hd]; omega
      simp only [f_X10_compareFractions_b116, cmp_eq0, lN0, z, sgN, nx_eq, ck_true, br_true, br_false, bd_eq, de_eq, mN_sI_, mK_sI_, mL_sI_, mI_sI_ap, mJ_sI_, mR_sI_, mN_sJ_, mK_sJ_, mL_sJ_, mI_sJ_, mJ_sJ_ap, mR_sJ_, mN_sR_, mK_sR_, mL_sR_, mI_sR_, mJ_sR_, mR_sR_ap, Nat.reduceEqDiff, Nat.reduceAdd, ↓reduceIte, and_true, true_and, and_false, false_and, or_true, true_or, or_false, false_or, not_true_eq_false, not_false_eq_true, i10, i01, ii01, ii02, ii03, ii04, ii05, ii12, ii13, ii14, ii15, ii20, ii21, ii23, ii24, ii25, ii30, ii31, ii32, ii34, ii35, ii40, ii41, ii42, ii43, ii45, ii50, ii51, ii52, ii53, ii54, bi_z, Option.some.injEq, reduceCtorEq, Nat.reduceLeDiff]
  · have e2 : d = 0 := h0.resolve_left e
    subst e2
    have p : 0 < c * b := Nat.mul_pos (by omega) (by omega)
    rw [cmpN_lt (by omega)]
    have z : ¬ lN b = lN 0 := by rw [lNeq hb (by decide)]; exact e
    have m1 : ¬ (-1 : Int32) = 0 := by decide
    have m2 : ¬ (-1 : Int32) = 1 := by decide
    simp only [f_X10_compareFractions_b116, cmp_eq0, lN0, z, sgN, m1, m2, nx_eq, ck_true, br_true, br_false, bd_eq, de_eq, mN_sI_, mK_sI_, mL_sI_, mI_sI_ap, mJ_sI_, mR_sI_, mN_sJ_, mK_sJ_, mL_sJ_, mI_sJ_, mJ_sJ_ap, mR_sJ_, mN_sR_, mK_sR_, mL_sR_, mI_sR_, mJ_sR_, mR_sR_ap, Nat.reduceEqDiff, Nat.reduceAdd, ↓reduceIte, and_true, true_and, and_false, false_and, or_true, true_or, or_false, false_or, not_true_eq_false, not_false_eq_true, i10, i01, ii01, ii02, ii03, ii04, ii05, ii12, ii13, ii14, ii15, ii20, ii21, ii23, ii24, ii25, ii30, ii31, ii32, ii34, ii35, ii40, ii41, ii42, ii43, ii45, ii50, ii51, ii52, ii53, ii54, bi_z, Option.some.injEq, reduceCtorEq, Nat.reduceLeDiff]
theorem cf_q {a b c d : Nat} (hb : 0 < b) (hd : 0 < d) (h : a / b < c / d) : a * d < c * b := by
  have e1 := Nat.div_add_mod a b
  have e2 := Nat.div_add_mod c d
  have m1 : a % b < b := Nat.mod_lt _ hb
  have h1 : a < b * (a / b + 1) := by rw [Nat.mul_add]; omega
  have h2 : d * (a / b + 1) ≤ c := Nat.le_trans (Nat.mul_le_mul_left d h) (by omega)
  calc a * d < b * (a / b + 1) * d := Nat.mul_lt_mul_of_pos_right h1 hd
    _ = d * (a / b + 1) * b := by rw [Nat.mul_comm b, Nat.mul_assoc, Nat.mul_comm b d, ← Nat.mul_assoc, Nat.mul_comm (a / b + 1) d]
    _ ≤ c * b := Nat.mul_le_mul_right b h2
theorem cmpN_add (z x y : Nat) : cmpN (z + x) (z + y) = cmpN x y := by
  rcases Nat.lt_trichotomy x y with h | h | h
  · rw [cmpN_lt h, cmpN_lt (by omega)]
  · rw [cmpN_eq h, cmpN_eq (by omega)]
  · rw [cmpN_gt h, cmpN_gt (by omega)]
theorem cf_r {a b c d : Nat} (h : a / b = c / d) : cmpN (d * (a % b)) (b * (c % d)) = cmpN (a * d) (c * b) := by
  have e1 := Nat.div_add_mod a b
  have e2 := Nat.div_add_mod c d
  have x1 : a * d = b * (a / b) * d + d * (a % b) := by
    rw [Nat.mul_comm d (a % b), ← Nat.add_mul, e1]
  have x2 : c * b = b * (a / b) * d + b * (c % d) := by
    rw [h, Nat.mul_assoc, Nat.mul_comm (c / d) d, ← Nat.mul_add, e2, Nat.mul_comm]
  rw [x1, x2, cmpN_add]
theorem lp_cf (F : Nat) (σ : Mem) : ∀ n a b c d M s, eG n a b → n ≤ 100 → a < 9223372036854775808 → b < 9223372036854775808 → c < 9223372036854775808 → d < 9223372036854775808 → (0 < a ∨ 0 < b) → (0 < c ∨ 0 < d) → (s = 1 ∨ s = -1) → n < M → f_X10_compareFractions_b20 F M σ (lN a) (lN b) (lN c) (lN d) s (nI (100 - n)) = some (sgN s (cmpN (a * d) (c * b)), σ) := by
  intro n
  induction n with
  | zero =>
    intro a b c d M s h hn ha hb hc hd h1 h2 hs hM
    obtain ⟨M, rfl⟩ : ∃ M', M = M' + 1 := ⟨M - 1, by omega⟩
    have g : (100 : Int32) ≤ nI (100 - 0) := nI_le (a := 100) (b := 100) (by decide) (by decide)
    show f_X10_compareFractions_b20_it F (f_X10_compareFractions_b20 F M) σ (lN a) (lN b) (lN c) (lN d) s (nI (100 - 0)) = _
    unfold f_X10_compareFractions_b20_it
    rw [br_t1 g]
    exact cf_end F σ hb hd h1 h2 (Or.inl h)
  | succ n ih =>
    intro a b c d M s h hn ha hb hc hd h1 h2 hs hM
    obtain ⟨M, rfl⟩ : ∃ M', M = M' + 1 := ⟨M - 1, by omega⟩
    have g : ¬ (100 : Int32) ≤ nI (100 - (n + 1)) := nI_ge (b := 100) (by omega) (by decide)
    show f_X10_compareFractions_b20_it F (f_X10_compareFractions_b20 F M) σ (lN a) (lN b) (lN c) (lN d) s (nI (100 - (n + 1))) = _
    unfold f_X10_compareFractions_b20_it
    rw [br_f1 g, cmp_le0, cmp_le0, lN0, lNle hb (by decide), lNle hd (by decide)]
    by_cases b0 : b = 0
    · rw [br_t1 (show b ≤ 0 by omega)]
      exact cf_end F σ hb hd h1 h2 (Or.inl b0)
    · rw [br_f1 (show ¬ b ≤ 0 by omega)]
      by_cases d0 : d = 0
      · rw [br_t1 (show d ≤ 0 by omega)]
        exact cf_end F σ hb hd h1 h2 (Or.inr d0)
      · rw [br_f1 (show ¬ d ≤ 0 by omega)]
        have zb : ¬ lN b = lN 0 := by rw [lNeq hb (by decide)]; exact b0
        have zd : ¬ lN d = lN 0 := by rw [lNeq hd (by decide)]; exact d0
        have qa : a / b < 9223372036854775808 := Nat.lt_of_le_of_lt (Nat.div_le_self _ _) ha
        have qc : c / d < 9223372036854775808 := Nat.lt_of_le_of_lt (Nat.div_le_self _ _) hc
        have m1 : a % b < b := Nat.mod_lt _ (by omega)
        have m2 : c % d < d := Nat.mod_lt _ (by omega)
        have E1 := pk_lDiv ha (show 0 < b by omega) hb
        have E2 := pk_lDiv hc (show 0 < d by omega) hd
        have R1 := pk_lRem ha (show 0 < b by omega) hb
        have R2 := pk_lRem hc (show 0 < d by omega) hd
        have s1 : nI (100 - (n + 1)) + 1 = nI (100 - n) := by rw [nI_1]; exact congrArg nI (by omega)
        rw [R1, R2, E1, E2]
        rcases Nat.lt_trichotomy (a / b) (c / d) with q | q | q
        · have k1 : ¬ c / d ≤ a / b := by omega
          have n0 : ¬ (-1 : Int32) = 0 := by decide
          have n1 : (-1 : Int32) ≤ 0 := by decide
          have n2 : ¬ (-1 : Int32) = 1 := by decide
          rw [cmpN_lt (cf_q (by omega) (by omega) q)]
          simp only [f_J13_compare_74951, cmp_ge0, cmp_eq0, lNle qc qa, k1, zb, zd, n0, n1, n2, sgN, nx_eq, ck_true, br_true, br_false, bd_eq, de_eq, mN_sI_, mK_sI_, mL_sI_, mI_sI_ap, mJ_sI_, mR_sI_, mN_sJ_, mK_sJ_, mL_sJ_, mI_sJ_, mJ_sJ_ap, mR_sJ_, mN_sR_, mK_sR_, mL_sR_, mI_sR_, mJ_sR_, mR_sR_ap, Nat.reduceEqDiff, Nat.reduceAdd, ↓reduceIte, and_true, true_and, and_false, false_and, or_true, true_or, or_false, false_or, not_true_eq_false, not_false_eq_true, i10, i01, ii01, ii02, ii03, ii04, ii05, ii12, ii13, ii14, ii15, ii20, ii21, ii23, ii24, ii25, ii30, ii31, ii32, ii34, ii35, ii40, ii41, ii42, ii43, ii45, ii50, ii51, ii52, ii53, ii54, bi_z, Option.some.injEq, reduceCtorEq, Nat.reduceLeDiff]
        · have h3 : eG n b (a % b) := h.resolve_left b0
          have k1 : c / d ≤ a / b := by omega
          have k2 : (lN (a / b) = lN (c / d)) = True := by rw [q]; exact eq_self _
          simp only [f_J13_compare_74951, cmp_ge0, cmp_eq0, lNle qc qa, k1, k2, zb, zd, s1, nx_eq, ck_true, br_true, br_false, bd_eq, de_eq, mN_sI_, mK_sI_, mL_sI_, mI_sI_ap, mJ_sI_, mR_sI_, mN_sJ_, mK_sJ_, mL_sJ_, mI_sJ_, mJ_sJ_ap, mR_sJ_, mN_sR_, mK_sR_, mL_sR_, mI_sR_, mJ_sR_, mR_sR_ap, Nat.reduceEqDiff, Nat.reduceAdd, ↓reduceIte, and_true, true_and, and_false, false_and, or_true, true_or, or_false, false_or, not_true_eq_false, not_false_eq_true, i10, i01, ii01, ii02, ii03, ii04, ii05, ii12, ii13, ii14, ii15, ii20, ii21, ii23, ii24, ii25, ii30, ii31, ii32, ii34, ii35, ii40, ii41, ii42, ii43, ii45, ii50, ii51, ii52, ii53, ii54, bi_z, Option.some.injEq, reduceCtorEq, Nat.reduceLeDiff]
          rw [ih b (a % b) d (c % d) M (-s) h3 (by omega) hb (by omega) hd (by omega) (Or.inl (by omega)) (Or.inl (by omega)) (by rcases hs with rfl | rfl <;> decide) (by omega), sgN_neg hs, cf_r q]
        · have k1 : c / d ≤ a / b := by omega
          have k2 : ¬ a / b = c / d := by omega
          have n0 : ¬ (1 : Int32) ≤ 0 := by decide
          rw [cmpN_gt (cf_q (by omega) (by omega) q)]
          simp only [f_J13_compare_74951, cmp_ge0, cmp_eq0, lNle qc qa, lNeq qa qc, k1, k2, zb, zd, n0, sgN, nx_eq, ck_true, br_true, br_false, bd_eq, de_eq, mN_sI_, mK_sI_, mL_sI_, mI_sI_ap, mJ_sI_, mR_sI_, mN_sJ_, mK_sJ_, mL_sJ_, mI_sJ_, mJ_sJ_ap, mR_sJ_, mN_sR_, mK_sR_, mL_sR_, mI_sR_, mJ_sR_, mR_sR_ap, Nat.reduceEqDiff, Nat.reduceAdd, ↓reduceIte, and_true, true_and, and_false, false_and, or_true, true_or, or_false, false_or, not_true_eq_false, not_false_eq_true, i10, i01, ii01, ii02, ii03, ii04, ii05, ii12, ii13, ii14, ii15, ii20, ii21, ii23, ii24, ii25, ii30, ii31, ii32, ii34, ii35, ii40, ii41, ii42, ii43, ii45, ii50, ii51, ii52, ii53, ii54, bi_z, Option.some.injEq, reduceCtorEq, Nat.reduceLeDiff]
/-- two fractions compared by the class -/
theorem e_cf (F : Nat) (hF : 101 ≤ F) (σ : Mem) {a b c d : Nat} (ha : a < 9223372036854775808) (hb : b < 9223372036854775808) (hc : c < 9223372036854775808) (hd : d < 9223372036854775808) (b0 : 0 < b) (d0 : 0 < d) : f_X10_compareFractions F σ (lN a) (lN b) (lN c) (lN d) = some (cmpN (a * d) (c * b), σ) := by
  have := lp_cf F σ 100 a b c d F 1 (eG_100 a hb) (by omega) ha hb hc hd (Or.inr b0) (Or.inr d0) (Or.inl rfl) hF
  rw [sgN_1] at this
  exact this
