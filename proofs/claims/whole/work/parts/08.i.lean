/-- a sum, taken from the front -/
def sA (w : Nat → Int32) : Nat → Nat → Int32 → Int32
  | 0, _, acc => acc
  | k + 1, f, acc => sA w k (f + 1) (acc + w f)
theorem sA_acc (w : Nat → Int32) : ∀ k f a, sA w k f a = a + sA w k f 0 := by
  intro k
  induction k with
  | zero => intro f a; exact (Int32.add_zero a).symm
  | succ k ih =>
    intro f a
    show sA w k (f + 1) (a + w f) = a + sA w k (f + 1) (0 + w f)
    rw [ih (f + 1) (a + w f), ih (f + 1) (0 + w f), Int32.zero_add, Int32.add_assoc]
theorem sA_cg {w v : Nat → Int32} : ∀ k f a, (∀ i, f ≤ i → i < f + k → w i = v i) → sA w k f a = sA v k f a := by
  intro k
  induction k with
  | zero => intro f a _; rfl
  | succ k ih =>
    intro f a h
    show sA w k (f + 1) (a + w f) = sA v k (f + 1) (a + v f)
    rw [h f (Nat.le_refl _) (by omega)]
    exact ih (f + 1) _ (fun i h1 h2 => h i (by omega) (by omega))
theorem sA_app (w : Nat → Int32) : ∀ k j f a, sA w (k + j) f a = sA w j (f + k) (sA w k f a) := by
  intro k
  induction k with
  | zero => intro j f a; rw [Nat.zero_add, Nat.add_zero]; rfl
  | succ k ih =>
    intro j f a
    rw [show k + 1 + j = (k + j) + 1 by omega]
    show sA w (k + j) (f + 1) (a + w f) = sA w j (f + (k + 1)) (sA w k (f + 1) (a + w f))
    rw [ih, show f + 1 + k = f + (k + 1) by omega]
theorem lp_cs (F : Nat) {c m : Mem} (hC : shC c) {L N Fl : Nat} {fid S : Nat → Nat} (hfl : Rfls c m L N Fl fid S) : ∀ (k f : Nat) (acc : Int32) (M : Nat), f + k = Fl → k < M → f_X10_countStrikes_b4 F 0 M c acc (nI f) = some (sA (fun g => nI (S g)) k f acc, c) := by
  have a1 := hfl.1
  have a2 := hfl.2.1
  intro k
  induction k with
  | zero =>
    intro f acc M h1 h2
    obtain ⟨M, rfl⟩ : ∃ M', M = M' + 1 := ⟨M - 1, by omega⟩
    have g : nI Fl ≤ nI f := nI_le (by omega) (by omega)
    show f_X10_countStrikes_b4_it F (f_X10_countStrikes_b4 F 0 M) 0 c acc (nI f) = some (acc, c)
    simp only [f_X10_countStrikes_b4_it, hC, a2, g, nx_eq, ck_true, br_true, br_false, bd_eq, de_eq, mN_sI_, mK_sI_, mL_sI_, mI_sI_ap, mJ_sI_, mR_sI_, mN_sJ_, mK_sJ_, mL_sJ_, mI_sJ_, mJ_sJ_ap, mR_sJ_, mN_sR_, mK_sR_, mL_sR_, mI_sR_, mJ_sR_, mR_sR_ap, Nat.reduceEqDiff, Nat.reduceAdd, ↓reduceIte, and_true, true_and, and_false, false_and, or_true, true_or, or_false, false_or, not_true_eq_false, not_false_eq_true, i10, i01, ii01, ii02, ii03, ii04, ii05, ii12, ii13, ii14, ii15, ii20, ii21, ii23, ii24, ii25, ii30, ii31, ii32, ii34, ii35, ii40, ii41, ii42, ii43, ii45, ii50, ii51, ii52, ii53, ii54, bi_z, Option.some.injEq, reduceCtorEq, Nat.reduceLeDiff]
  | succ k ih =>
    intro f acc M h1 h2
    obtain ⟨M, rfl⟩ : ∃ M', M = M' + 1 := ⟨M - 1, by omega⟩
    have hf : f < Fl := by omega
    have g : ¬ nI Fl ≤ nI f := nI_ge hf (by omega)
    have eA := e_fA_in F hC hfl hf
    obtain ⟨-, hsf, -, hB, -⟩ := hfl.2.2.2.1 f hf
    have s17 : mI c (fid f) 17 = nI (S f) := hB.2.2.2.2.2.2.2.2.2.2.2.1
    show f_X10_countStrikes_b4_it F (f_X10_countStrikes_b4 F 0 M) 0 c acc (nI f) = _
    simp only [f_X10_countStrikes_b4_it, f_X10_countStrikes_b31, f_X2_strikeCount, hC, hsf, a2, g, eA, s17, nI_1, nx_eq, ck_true, br_true, br_false, bd_eq, de_eq, mN_sI_, mK_sI_, mL_sI_, mI_sI_ap, mJ_sI_, mR_sI_, mN_sJ_, mK_sJ_, mL_sJ_, mI_sJ_, mJ_sJ_ap, mR_sJ_, mN_sR_, mK_sR_, mL_sR_, mI_sR_, mJ_sR_, mR_sR_ap, Nat.reduceEqDiff, Nat.reduceAdd, ↓reduceIte, and_true, true_and, and_false, false_and, or_true, true_or, or_false, false_or, not_true_eq_false, not_false_eq_true, i10, i01, ii01, ii02, ii03, ii04, ii05, ii12, ii13, ii14, ii15, ii20, ii21, ii23, ii24, ii25, ii30, ii31, ii32, ii34, ii35, ii40, ii41, ii42, ii43, ii45, ii50, ii51, ii52, ii53, ii54, bi_z, Option.some.injEq, reduceCtorEq, Nat.reduceLeDiff]
    exact ih (f + 1) _ M (by omega) (by omega)
theorem lp_ms (F : Nat) {m : Mem} (hM : shM m) {Fl : Nat} (f3 : mI m 50 10 = nI Fl) (h6 : Fl ≤ 6) : ∀ (k f : Nat) (acc : Int32) (M : Nat), f + k = Fl → k < M → f_X11_count_b70 F 50 M m acc (nI f) = some (sA (mI m 66) k f acc, m) := by
  intro k
  induction k with
  | zero =>
    intro f acc M h1 h2
    obtain ⟨M, rfl⟩ : ∃ M', M = M' + 1 := ⟨M - 1, by omega⟩
    have g : nI Fl ≤ nI f := nI_le (by omega) (by omega)
    show f_X11_count_b70_it F (f_X11_count_b70 F 50 M) 50 m acc (nI f) = some (acc, m)
    simp only [f_X11_count_b70_it, hM, f3, g, nx_eq, ck_true, br_true, br_false, bd_eq, de_eq, mN_sI_, mK_sI_, mL_sI_, mI_sI_ap, mJ_sI_, mR_sI_, mN_sJ_, mK_sJ_, mL_sJ_, mI_sJ_, mJ_sJ_ap, mR_sJ_, mN_sR_, mK_sR_, mL_sR_, mI_sR_, mJ_sR_, mR_sR_ap, Nat.reduceEqDiff, Nat.reduceAdd, ↓reduceIte, and_true, true_and, and_false, false_and, or_true, true_or, or_false, false_or, not_true_eq_false, not_false_eq_true, i10, i01, ii01, ii02, ii03, ii04, ii05, ii12, ii13, ii14, ii15, ii20, ii21, ii23, ii24, ii25, ii30, ii31, ii32, ii34, ii35, ii40, ii41, ii42, ii43, ii45, ii50, ii51, ii52, ii53, ii54, bi_z, Option.some.injEq, reduceCtorEq, Nat.reduceLeDiff]
  | succ k ih =>
    intro f acc M h1 h2
    obtain ⟨M, rfl⟩ : ∃ M', M = M' + 1 := ⟨M - 1, by omega⟩
    have g : ¬ nI Fl ≤ nI f := nI_ge (by omega) (by omega)
    show f_X11_count_b70_it F (f_X11_count_b70 F 50 M) 50 m acc (nI f) = _
    simp only [f_X11_count_b70_it, hM, f3, g, vp_nI (show f < 6 by omega) (by decide), nI_cl (show f < 2147483648 by omega), nI_1, nx_eq, ck_true, br_true, br_false, bd_eq, de_eq, mN_sI_, mK_sI_, mL_sI_, mI_sI_ap, mJ_sI_, mR_sI_, mN_sJ_, mK_sJ_, mL_sJ_, mI_sJ_, mJ_sJ_ap, mR_sJ_, mN_sR_, mK_sR_, mL_sR_, mI_sR_, mJ_sR_, mR_sR_ap, Nat.reduceEqDiff, Nat.reduceAdd, ↓reduceIte, and_true, true_and, and_false, false_and, or_true, true_or, or_false, false_or, not_true_eq_false, not_false_eq_true, i10, i01, ii01, ii02, ii03, ii04, ii05, ii12, ii13, ii14, ii15, ii20, ii21, ii23, ii24, ii25, ii30, ii31, ii32, ii34, ii35, ii40, ii41, ii42, ii43, ii45, ii50, ii51, ii52, ii53, ii54, bi_z, Option.some.injEq, reduceCtorEq, Nat.reduceLeDiff]
    exact ih (f + 1) _ M (by omega) (by omega)
/-- closed prizes of one flight -/
def clB (x : Int32) : Int32 := if x = 0 then 0 else 1
theorem lp_cc1 (F : Nat) {c : Mem} {q : Nat} (hsf : shF c q) : ∀ (k l : Nat) (acc : Int32) (M : Nat), l + k = 6 → k < M → f_X2_closedCount_b13 F q M c acc (some (q + 12)) (nI 6) (nI l) = some (sA (fun i => clB (mI c (q + (13 + 4 * i)) 2)) k l acc, c) := by
  intro k
  induction k with
  | zero =>
    intro l acc M h1 h2
    obtain ⟨M, rfl⟩ : ∃ M', M = M' + 1 := ⟨M - 1, by omega⟩
    have g : nI 6 ≤ nI l := nI_le (by omega) (by omega)
    show f_X2_closedCount_b13_it F (f_X2_closedCount_b13 F q M) q c acc (some (q + 12)) (nI 6) (nI l) = some (acc, c)
    simp only [f_X2_closedCount_b13_it, g, nx_eq, ck_true, br_true, br_false, bd_eq, de_eq, mN_sI_, mK_sI_, mL_sI_, mI_sI_ap, mJ_sI_, mR_sI_, mN_sJ_, mK_sJ_, mL_sJ_, mI_sJ_, mJ_sJ_ap, mR_sJ_, mN_sR_, mK_sR_, mL_sR_, mI_sR_, mJ_sR_, mR_sR_ap, Nat.reduceEqDiff, Nat.reduceAdd, ↓reduceIte, and_true, true_and, and_false, false_and, or_true, true_or, or_false, false_or, not_true_eq_false, not_false_eq_true, i10, i01, ii01, ii02, ii03, ii04, ii05, ii12, ii13, ii14, ii15, ii20, ii21, ii23, ii24, ii25, ii30, ii31, ii32, ii34, ii35, ii40, ii41, ii42, ii43, ii45, ii50, ii51, ii52, ii53, ii54, bi_z, Option.some.injEq, reduceCtorEq, Nat.reduceLeDiff]
  | succ k ih =>
    intro l acc M h1 h2
    obtain ⟨M, rfl⟩ : ∃ M', M = M' + 1 := ⟨M - 1, by omega⟩
    have g : ¬ nI 6 ≤ nI l := nI_ge (by omega) (by omega)
    have hr : mR c (q + 12) l = some (q + (13 + 4 * l)) ∧ mK c (q + (13 + 4 * l)) = 5 := by
      unfold shF at hsf
      rcases (show l = 0 ∨ l = 1 ∨ l = 2 ∨ l = 3 ∨ l = 4 ∨ l = 5 by omega) with rfl | rfl | rfl | rfl | rfl | rfl <;> simp only [hsf, and_self, Nat.reduceMul, Nat.reduceAdd]
    show f_X2_closedCount_b13_it F (f_X2_closedCount_b13 F q M) q c acc (some (q + 12)) (nI 6) (nI l) = _
    by_cases hz : mI c (q + (13 + 4 * l)) 2 = 0
    · have e : sA (fun i => clB (mI c (q + (13 + 4 * i)) 2)) (k + 1) l acc = sA (fun i => clB (mI c (q + (13 + 4 * i)) 2)) k (l + 1) (acc + 0) := by
        show sA _ k (l + 1) (acc + clB (mI c (q + (13 + 4 * l)) 2)) = _
        rw [clB, if_pos hz]
      rw [e]
      simp only [f_X2_closedCount_b13_it, f_X2_closedCount_b43, f_X2_closedCount_b44, hsf, hr.1, hr.2, hz, g, vp_nI (show l < 6 by omega) (by decide), nI_cl (show l < 2147483648 by omega), nI_1, nx_eq, ck_true, br_true, br_false, bd_eq, de_eq, mN_sI_, mK_sI_, mL_sI_, mI_sI_ap, mJ_sI_, mR_sI_, mN_sJ_, mK_sJ_, mL_sJ_, mI_sJ_, mJ_sJ_ap, mR_sJ_, mN_sR_, mK_sR_, mL_sR_, mI_sR_, mJ_sR_, mR_sR_ap, Nat.reduceEqDiff, Nat.reduceAdd, ↓reduceIte, and_true, true_and, and_false, false_and, or_true, true_or, or_false, false_or, not_true_eq_false, not_false_eq_true, i10, i01, ii01, ii02, ii03, ii04, ii05, ii12, ii13, ii14, ii15, ii20, ii21, ii23, ii24, ii25, ii30, ii31, ii32, ii34, ii35, ii40, ii41, ii42, ii43, ii45, ii50, ii51, ii52, ii53, ii54, bi_z, Option.some.injEq, reduceCtorEq, Nat.reduceLeDiff]
      exact ih (l + 1) _ M (by omega) (by omega)
    · have e : sA (fun i => clB (mI c (q + (13 + 4 * i)) 2)) (k + 1) l acc = sA (fun i => clB (mI c (q + (13 + 4 * i)) 2)) k (l + 1) (acc + 1) := by
        show sA _ k (l + 1) (acc + clB (mI c (q + (13 + 4 * l)) 2)) = _
        rw [clB, if_neg hz]
      rw [e]
      simp only [f_X2_closedCount_b13_it, f_X2_closedCount_b43, f_X2_closedCount_b44, hsf, hr.1, hr.2, hz, g, vp_nI (show l < 6 by omega) (by decide), nI_cl (show l < 2147483648 by omega), nI_1, nx_eq, ck_true, br_true, br_false, bd_eq, de_eq, mN_sI_, mK_sI_, mL_sI_, mI_sI_ap, mJ_sI_, mR_sI_, mN_sJ_, mK_sJ_, mL_sJ_, mI_sJ_, mJ_sJ_ap, mR_sJ_, mN_sR_, mK_sR_, mL_sR_, mI_sR_, mJ_sR_, mR_sR_ap, Nat.reduceEqDiff, Nat.reduceAdd, ↓reduceIte, and_true, true_and, and_false, false_and, or_true, true_or, or_false, false_or, not_true_eq_false, not_false_eq_true, i10, i01, ii01, ii02, ii03, ii04, ii05, ii12, ii13, ii14, ii15, ii20, ii21, ii23, ii24, ii25, ii30, ii31, ii32, ii34, ii35, ii40, ii41, ii42, ii43, ii45, ii50, ii51, ii52, ii53, ii54, bi_z, Option.some.injEq, reduceCtorEq, Nat.reduceLeDiff]
      exact ih (l + 1) _ M (by omega) (by omega)
theorem e_cc1 (F : Nat) (hF : 100 ≤ F) {c : Mem} {q : Nat} (hsf : shF c q) : f_X2_closedCount F c q = some (sA (fun i => clB (mI c (q + (13 + 4 * i)) 2)) 6 0 0, c) := by
  have h := lp_cc1 F hsf 6 0 0 F (by decide) (by omega)
  have e6 : nI 6 = nI (mL c (q + 12)) := by
    unfold shF at hsf
    simp only [hsf]
  have k21 : 21 ≤ mK c (q + 12) ∧ mK c (q + 12) ≤ 27 := by
    unfold shF at hsf
    simp only [hsf]
    decide
  unfold f_X2_closedCount
  rw [ck_t (by unfold shF at hsf; simp only [hsf]), nx_eq, show mR c q 16 = some (q + 12) by unfold shF at hsf; simp only [hsf], de_eq, ck_t k21, nx_eq, ← e6]
  exact h
theorem lp_cc (F : Nat) (hF : 100 ≤ F) {c m : Mem} (hC : shC c) {L N Fl : Nat} {fid S : Nat → Nat} (hfl : Rfls c m L N Fl fid S) : ∀ (k f : Nat) (acc : Int32) (M : Nat), f + k = Fl → k < M → f_X10_countClosed_b4 F 0 M c acc (nI f) = some (sA (fun i => clB (mI m 74 i)) (6 * k) (6 * f) acc, c) := by
  have a1 := hfl.1
  have a2 := hfl.2.1
  intro k
  induction k with
  | zero =>
    intro f acc M h1 h2
    obtain ⟨M, rfl⟩ : ∃ M', M = M' + 1 := ⟨M - 1, by omega⟩
    have g : nI Fl ≤ nI f := nI_le (by omega) (by omega)
    show f_X10_countClosed_b4_it F (f_X10_countClosed_b4 F 0 M) 0 c acc (nI f) = some (acc, c)
    simp only [f_X10_countClosed_b4_it, hC, a2, g, nx_eq, ck_true, br_true, br_false, bd_eq, de_eq, mN_sI_, mK_sI_, mL_sI_, mI_sI_ap, mJ_sI_, mR_sI_, mN_sJ_, mK_sJ_, mL_sJ_, mI_sJ_, mJ_sJ_ap, mR_sJ_, mN_sR_, mK_sR_, mL_sR_, mI_sR_, mJ_sR_, mR_sR_ap, Nat.reduceEqDiff, Nat.reduceAdd, ↓reduceIte, and_true, true_and, and_false, false_and, or_true, true_or, or_false, false_or, not_true_eq_false, not_false_eq_true, i10, i01, ii01, ii02, ii03, ii04, ii05, ii12, ii13, ii14, ii15, ii20, ii21, ii23, ii24, ii25, ii30, ii31, ii32, ii34, ii35, ii40, ii41, ii42, ii43, ii45, ii50, ii51, ii52, ii53, ii54, bi_z, Option.some.injEq, reduceCtorEq, Nat.reduceLeDiff]
  | succ k ih =>
    intro f acc M h1 h2
    obtain ⟨M, rfl⟩ : ∃ M', M = M' + 1 := ⟨M - 1, by omega⟩
    have hf : f < Fl := by omega
    have g : ¬ nI Fl ≤ nI f := nI_ge hf (by omega)
    have eA := e_fA_in F hC hfl hf
    obtain ⟨-, hsf, -, -, -, -, -, hKk⟩ := hfl.2.2.2.1 f hf
    have es : sA (fun i => clB (mI c (fid f + (13 + 4 * i)) 2)) 6 0 0 = sA (fun i => clB (mI m 74 (6 * f + i))) 6 0 0 := sA_cg 6 0 0 (fun i _ h => by
      show clB _ = clB _
      rw [(hKk i (by omega)).2.1])
    have sh : ∀ k j a, sA (fun i => clB (mI m 74 (6 * f + i))) k j a = sA (fun i => clB (mI m 74 i)) k (6 * f + j) a := by
      intro k
      induction k with
      | zero => intro j a; rfl
      | succ k ih2 => intro j a; exact ih2 (j + 1) _
    have hk3 : mK c (fid f) = 3 := by unfold shF at hsf; simp only [hsf]
    show f_X10_countClosed_b4_it F (f_X10_countClosed_b4 F 0 M) 0 c acc (nI f) = _
    simp only [f_X10_countClosed_b4_it, f_X10_countClosed_b31, e_cc1 F hF hsf, hC, hk3, a2, g, eA, nI_1, nx_eq, ck_true, br_true, br_false, bd_eq, de_eq, mN_sI_, mK_sI_, mL_sI_, mI_sI_ap, mJ_sI_, mR_sI_, mN_sJ_, mK_sJ_, mL_sJ_, mI_sJ_, mJ_sJ_ap, mR_sJ_, mN_sR_, mK_sR_, mL_sR_, mI_sR_, mJ_sR_, mR_sR_ap, Nat.reduceEqDiff, Nat.reduceAdd, ↓reduceIte, and_true, true_and, and_false, false_and, or_true, true_or, or_false, false_or, not_true_eq_false, not_false_eq_true, i10, i01, ii01, ii02, ii03, ii04, ii05, ii12, ii13, ii14, ii15, ii20, ii21, ii23, ii24, ii25, ii30, ii31, ii32, ii34, ii35, ii40, ii41, ii42, ii43, ii45, ii50, ii51, ii52, ii53, ii54, bi_z, Option.some.injEq, reduceCtorEq, Nat.reduceLeDiff]
    rw [ih (f + 1) _ M (by omega) (by omega), show 6 * (k + 1) = 6 + 6 * k by omega, sA_app, es, sh, sA_acc _ 6 (6 * f) acc]
    rfl
theorem lp_mc (F : Nat) {m : Mem} (hM : shM m) : ∀ (k f : Nat) (acc : Int32) (M : Nat), f + k = 36 → k < M → f_X11_count_b97 F 50 M m acc (nI f) = some (sA (fun i => clB (mI m 74 i)) k f acc, m) := by
  intro k
  induction k with
  | zero =>
    intro f acc M h1 h2
    obtain ⟨M, rfl⟩ : ∃ M', M = M' + 1 := ⟨M - 1, by omega⟩
    have g : (36 : Int32) ≤ nI f := nI_le (a := 36) (by omega) (by omega)
    show f_X11_count_b97_it F (f_X11_count_b97 F 50 M) 50 m acc (nI f) = some (acc, m)
    simp only [f_X11_count_b97_it, g, nx_eq, ck_true, br_true, br_false, bd_eq, de_eq, mN_sI_, mK_sI_, mL_sI_, mI_sI_ap, mJ_sI_, mR_sI_, mN_sJ_, mK_sJ_, mL_sJ_, mI_sJ_, mJ_sJ_ap, mR_sJ_, mN_sR_, mK_sR_, mL_sR_, mI_sR_, mJ_sR_, mR_sR_ap, Nat.reduceEqDiff, Nat.reduceAdd, ↓reduceIte, and_true, true_and, and_false, false_and, or_true, true_or, or_false, false_or, not_true_eq_false, not_false_eq_true, i10, i01, ii01, ii02, ii03, ii04, ii05, ii12, ii13, ii14, ii15, ii20, ii21, ii23, ii24, ii25, ii30, ii31, ii32, ii34, ii35, ii40, ii41, ii42, ii43, ii45, ii50, ii51, ii52, ii53, ii54, bi_z, Option.some.injEq, reduceCtorEq, Nat.reduceLeDiff]
  | succ k ih =>
    intro f acc M h1 h2
    obtain ⟨M, rfl⟩ : ∃ M', M = M' + 1 := ⟨M - 1, by omega⟩
    have g : ¬ (36 : Int32) ≤ nI f := nI_ge (b := 36) (by omega) (by omega)
    show f_X11_count_b97_it F (f_X11_count_b97 F 50 M) 50 m acc (nI f) = some (sA (fun i => clB (mI m 74 i)) k (f + 1) (acc + clB (mI m 74 f)), m)
    by_cases hz : mI m 74 f = 0
    · rw [clB, if_pos hz]
      simp only [f_X11_count_b97_it, f_X11_count_b118, hM, g, hz, vp_nI (show f < 36 by omega) (by decide), nI_cl (show f < 2147483648 by omega), nI_1, nx_eq, ck_true, br_true, br_false, bd_eq, de_eq, mN_sI_, mK_sI_, mL_sI_, mI_sI_ap, mJ_sI_, mR_sI_, mN_sJ_, mK_sJ_, mL_sJ_, mI_sJ_, mJ_sJ_ap, mR_sJ_, mN_sR_, mK_sR_, mL_sR_, mI_sR_, mJ_sR_, mR_sR_ap, Nat.reduceEqDiff, Nat.reduceAdd, ↓reduceIte, and_true, true_and, and_false, false_and, or_true, true_or, or_false, false_or, not_true_eq_false, not_false_eq_true, i10, i01, ii01, ii02, ii03, ii04, ii05, ii12, ii13, ii14, ii15, ii20, ii21, ii23, ii24, ii25, ii30, ii31, ii32, ii34, ii35, ii40, ii41, ii42, ii43, ii45, ii50, ii51, ii52, ii53, ii54, bi_z, Option.some.injEq, reduceCtorEq, Nat.reduceLeDiff]
      exact ih (f + 1) _ M (by omega) (by omega)
    · rw [clB, if_neg hz]
      simp only [f_X11_count_b97_it, f_X11_count_b118, hM, g, hz, vp_nI (show f < 36 by omega) (by decide), nI_cl (show f < 2147483648 by omega), nI_1, nx_eq, ck_true, br_true, br_false, bd_eq, de_eq, mN_sI_, mK_sI_, mL_sI_, mI_sI_ap, mJ_sI_, mR_sI_, mN_sJ_, mK_sJ_, mL_sJ_, mI_sJ_, mJ_sJ_ap, mR_sJ_, mN_sR_, mK_sR_, mL_sR_, mI_sR_, mJ_sR_, mR_sR_ap, Nat.reduceEqDiff, Nat.reduceAdd, ↓reduceIte, and_true, true_and, and_false, false_and, or_true, true_or, or_false, false_or, not_true_eq_false, not_false_eq_true, i10, i01, ii01, ii02, ii03, ii04, ii05, ii12, ii13, ii14, ii15, ii20, ii21, ii23, ii24, ii25, ii30, ii31, ii32, ii34, ii35, ii40, ii41, ii42, ii43, ii45, ii50, ii51, ii52, ii53, ii54, bi_z, Option.some.injEq, reduceCtorEq, Nat.reduceLeDiff]
      exact ih (f + 1) _ M (by omega) (by omega)
theorem sA_zero {w : Nat → Int32} : ∀ k f a, (∀ i, f ≤ i → w i = 0) → sA w k f a = a := by
  intro k
  induction k with
  | zero => intro f a _; rfl
  | succ k ih =>
    intro f a h
    show sA w k (f + 1) (a + w f) = a
    rw [h f (Nat.le_refl _), Int32.add_zero]
    exact ih (f + 1) a (fun i hi => h i (by omega))
/-- count -/
theorem sim_count (F : Nat) (hF : 100 ≤ F) {c m : Mem} (h : Rel c m) (p : Int32) : Sim (f_X10_count F c 0 p) (f_X11_count F m 50 p) := by
  have hC := h.1
  have hM := h.2.1
  obtain ⟨nw, nl, hbk⟩ := h.2.2.2.2.2.2.1
  obtain ⟨L, N, hcl, Fl, fid, S, hfl⟩ := h.2.2.2.2.2.2.2
  have k3 := hcl.2.2.1
  have k4 := hcl.2.2.2.1
  have k5 := hcl.2.2.2.2.1
  have k6 := hcl.2.2.2.2.2.1
  have a1 := hfl.1
  have a2 := hfl.2.1
  have a3 := hfl.2.2.1
  have b5 := hbk.2.2.2.2.1
  have b6 := hbk.2.2.2.2.2.1
  have hM2 : shM (sI m 50 2 0) := hM.cg rfl rfl rfl
  by_cases w0 : p = 0
  · refine Sim.of (r := nI L) (c' := c) (m' := sI m 50 2 0) ?_ ?_ (h.thr 0)
    · simp only [f_X10_count, f_X1_loftCount, hC, k3, w0, nx_eq, ck_true, br_true, br_false, bd_eq, de_eq, mN_sI_, mK_sI_, mL_sI_, mI_sI_ap, mJ_sI_, mR_sI_, mN_sJ_, mK_sJ_, mL_sJ_, mI_sJ_, mJ_sJ_ap, mR_sJ_, mN_sR_, mK_sR_, mL_sR_, mI_sR_, mJ_sR_, mR_sR_ap, Nat.reduceEqDiff, Nat.reduceAdd, ↓reduceIte, and_true, true_and, and_false, false_and, or_true, true_or, or_false, false_or, not_true_eq_false, not_false_eq_true, i10, i01, ii01, ii02, ii03, ii04, ii05, ii12, ii13, ii14, ii15, ii20, ii21, ii23, ii24, ii25, ii30, ii31, ii32, ii34, ii35, ii40, ii41, ii42, ii43, ii45, ii50, ii51, ii52, ii53, ii54, bi_z, Option.some.injEq, reduceCtorEq, Nat.reduceLeDiff]
    · simp only [f_X11_count, hM, k4, w0, nx_eq, ck_true, br_true, br_false, bd_eq, de_eq, mN_sI_, mK_sI_, mL_sI_, mI_sI_ap, mJ_sI_, mR_sI_, mN_sJ_, mK_sJ_, mL_sJ_, mI_sJ_, mJ_sJ_ap, mR_sJ_, mN_sR_, mK_sR_, mL_sR_, mI_sR_, mJ_sR_, mR_sR_ap, Nat.reduceEqDiff, Nat.reduceAdd, ↓reduceIte, and_true, true_and, and_false, false_and, or_true, true_or, or_false, false_or, not_true_eq_false, not_false_eq_true, i10, i01, ii01, ii02, ii03, ii04, ii05, ii12, ii13, ii14, ii15, ii20, ii21, ii23, ii24, ii25, ii30, ii31, ii32, ii34, ii35, ii40, ii41, ii42, ii43, ii45, ii50, ii51, ii52, ii53, ii54, bi_z, Option.some.injEq, reduceCtorEq, Nat.reduceLeDiff]
  by_cases w1 : p = 1
  · refine Sim.of (r := nI N) (c' := c) (m' := sI m 50 2 0) ?_ ?_ (h.thr 0)
    · simp only [f_X10_count, f_X1_birdCount, hC, k5, w1, nx_eq, ck_true, br_true, br_false, bd_eq, de_eq, mN_sI_, mK_sI_, mL_sI_, mI_sI_ap, mJ_sI_, mR_sI_, mN_sJ_, mK_sJ_, mL_sJ_, mI_sJ_, mJ_sJ_ap, mR_sJ_, mN_sR_, mK_sR_, mL_sR_, mI_sR_, mJ_sR_, mR_sR_ap, Nat.reduceEqDiff, Nat.reduceAdd, ↓reduceIte, and_true, true_and, and_false, false_and, or_true, true_or, or_false, false_or, not_true_eq_false, not_false_eq_true, i10, i01, ii01, ii02, ii03, ii04, ii05, ii12, ii13, ii14, ii15, ii20, ii21, ii23, ii24, ii25, ii30, ii31, ii32, ii34, ii35, ii40, ii41, ii42, ii43, ii45, ii50, ii51, ii52, ii53, ii54, bi_z, Option.some.injEq, reduceCtorEq, Nat.reduceLeDiff]
    · simp only [f_X11_count, hM, k6, w1, nx_eq, ck_true, br_true, br_false, bd_eq, de_eq, mN_sI_, mK_sI_, mL_sI_, mI_sI_ap, mJ_sI_, mR_sI_, mN_sJ_, mK_sJ_, mL_sJ_, mI_sJ_, mJ_sJ_ap, mR_sJ_, mN_sR_, mK_sR_, mL_sR_, mI_sR_, mJ_sR_, mR_sR_ap, Nat.reduceEqDiff, Nat.reduceAdd, ↓reduceIte, and_true, true_and, and_false, false_and, or_true, true_or, or_false, false_or, not_true_eq_false, not_false_eq_true, i10, i01, ii01, ii02, ii03, ii04, ii05, ii12, ii13, ii14, ii15, ii20, ii21, ii23, ii24, ii25, ii30, ii31, ii32, ii34, ii35, ii40, ii41, ii42, ii43, ii45, ii50, ii51, ii52, ii53, ii54, bi_z, Option.some.injEq, reduceCtorEq, Nat.reduceLeDiff]
  by_cases w2 : p = 2
  · refine Sim.of (r := nI Fl) (c' := c) (m' := sI m 50 2 0) ?_ ?_ (h.thr 0)
    · simp only [f_X10_count, hC, a2, w2, nx_eq, ck_true, br_true, br_false, bd_eq, de_eq, mN_sI_, mK_sI_, mL_sI_, mI_sI_ap, mJ_sI_, mR_sI_, mN_sJ_, mK_sJ_, mL_sJ_, mI_sJ_, mJ_sJ_ap, mR_sJ_, mN_sR_, mK_sR_, mL_sR_, mI_sR_, mJ_sR_, mR_sR_ap, Nat.reduceEqDiff, Nat.reduceAdd, ↓reduceIte, and_true, true_and, and_false, false_and, or_true, true_or, or_false, false_or, not_true_eq_false, not_false_eq_true, i10, i01, ii01, ii02, ii03, ii04, ii05, ii12, ii13, ii14, ii15, ii20, ii21, ii23, ii24, ii25, ii30, ii31, ii32, ii34, ii35, ii40, ii41, ii42, ii43, ii45, ii50, ii51, ii52, ii53, ii54, bi_z, Option.some.injEq, reduceCtorEq, Nat.reduceLeDiff]
    · simp only [f_X11_count, hM, a3, w2, nx_eq, ck_true, br_true, br_false, bd_eq, de_eq, mN_sI_, mK_sI_, mL_sI_, mI_sI_ap, mJ_sI_, mR_sI_, mN_sJ_, mK_sJ_, mL_sJ_, mI_sJ_, mJ_sJ_ap, mR_sJ_, mN_sR_, mK_sR_, mL_sR_, mI_sR_, mJ_sR_, mR_sR_ap, Nat.reduceEqDiff, Nat.reduceAdd, ↓reduceIte, and_true, true_and, and_false, false_and, or_true, true_or, or_false, false_or, not_true_eq_false, not_false_eq_true, i10, i01, ii01, ii02, ii03, ii04, ii05, ii12, ii13, ii14, ii15, ii20, ii21, ii23, ii24, ii25, ii30, ii31, ii32, ii34, ii35, ii40, ii41, ii42, ii43, ii45, ii50, ii51, ii52, ii53, ii54, bi_z, Option.some.injEq, reduceCtorEq, Nat.reduceLeDiff]
  by_cases w3 : p = 3
  · refine Sim.of (r := nI nl) (c' := c) (m' := sI m 50 2 0) ?_ ?_ (h.thr 0)
    · simp only [f_X10_count, f_X0_size, hC, b5, w3, nx_eq, ck_true, br_true, br_false, bd_eq, de_eq, mN_sI_, mK_sI_, mL_sI_, mI_sI_ap, mJ_sI_, mR_sI_, mN_sJ_, mK_sJ_, mL_sJ_, mI_sJ_, mJ_sJ_ap, mR_sJ_, mN_sR_, mK_sR_, mL_sR_, mI_sR_, mJ_sR_, mR_sR_ap, Nat.reduceEqDiff, Nat.reduceAdd, ↓reduceIte, and_true, true_and, and_false, false_and, or_true, true_or, or_false, false_or, not_true_eq_false, not_false_eq_true, i10, i01, ii01, ii02, ii03, ii04, ii05, ii12, ii13, ii14, ii15, ii20, ii21, ii23, ii24, ii25, ii30, ii31, ii32, ii34, ii35, ii40, ii41, ii42, ii43, ii45, ii50, ii51, ii52, ii53, ii54, bi_z, Option.some.injEq, reduceCtorEq, Nat.reduceLeDiff]
    · simp only [f_X11_count, hM, b6, w3, nx_eq, ck_true, br_true, br_false, bd_eq, de_eq, mN_sI_, mK_sI_, mL_sI_, mI_sI_ap, mJ_sI_, mR_sI_, mN_sJ_, mK_sJ_, mL_sJ_, mI_sJ_, mJ_sJ_ap, mR_sJ_, mN_sR_, mK_sR_, mL_sR_, mI_sR_, mJ_sR_, mR_sR_ap, Nat.reduceEqDiff, Nat.reduceAdd, ↓reduceIte, and_true, true_and, and_false, false_and, or_true, true_or, or_false, false_or, not_true_eq_false, not_false_eq_true, i10, i01, ii01, ii02, ii03, ii04, ii05, ii12, ii13, ii14, ii15, ii20, ii21, ii23, ii24, ii25, ii30, ii31, ii32, ii34, ii35, ii40, ii41, ii42, ii43, ii45, ii50, ii51, ii52, ii53, ii54, bi_z, Option.some.injEq, reduceCtorEq, Nat.reduceLeDiff]
  by_cases w4 : p = 4
  · have e1 := lp_cs F hC hfl Fl 0 0 F (by omega) (by omega)
    have e2 := lp_ms F hM2 (Fl := Fl) (by rw [mI_sI_j (by decide)]; exact a3) a1 Fl 0 0 F (by omega) (by omega)
    have e3 : sA (mI (sI m 50 2 0) 66) Fl 0 0 = sA (fun g => nI (S g)) Fl 0 0 := sA_cg Fl 0 0 (fun i _ hi => by
      rw [mI_sI_o (by decide)]
      exact (hfl.2.2.2.1 i (by omega)).2.2.2.1.2.2.2.2.2.2.2.2.2.2.2.2)
    rw [e3] at e2
    replace e1 : f_X10_countStrikes_b4 F 0 F c 0 0 = _ := e1
    replace e2 : f_X11_count_b70 F 50 F (sI m 50 2 0) 0 0 = _ := e2
    refine Sim.of (r := sA (fun g => nI (S g)) Fl 0 0) (c' := c) (m' := sI m 50 2 0) ?_ ?_ (h.thr 0)
    · simp only [f_X10_count, f_X10_countStrikes, hC, e1, w4, nx_eq, ck_true, br_true, br_false, bd_eq, de_eq, mN_sI_, mK_sI_, mL_sI_, mI_sI_ap, mJ_sI_, mR_sI_, mN_sJ_, mK_sJ_, mL_sJ_, mI_sJ_, mJ_sJ_ap, mR_sJ_, mN_sR_, mK_sR_, mL_sR_, mI_sR_, mJ_sR_, mR_sR_ap, Nat.reduceEqDiff, Nat.reduceAdd, ↓reduceIte, and_true, true_and, and_false, false_and, or_true, true_or, or_false, false_or, not_true_eq_false, not_false_eq_true, i10, i01, ii01, ii02, ii03, ii04, ii05, ii12, ii13, ii14, ii15, ii20, ii21, ii23, ii24, ii25, ii30, ii31, ii32, ii34, ii35, ii40, ii41, ii42, ii43, ii45, ii50, ii51, ii52, ii53, ii54, bi_z, Option.some.injEq, reduceCtorEq, Nat.reduceLeDiff]
    · simp only [f_X11_count, hM, e2, w4, nx_eq, ck_true, br_true, br_false, bd_eq, de_eq, mN_sI_, mK_sI_, mL_sI_, mI_sI_ap, mJ_sI_, mR_sI_, mN_sJ_, mK_sJ_, mL_sJ_, mI_sJ_, mJ_sJ_ap, mR_sJ_, mN_sR_, mK_sR_, mL_sR_, mI_sR_, mJ_sR_, mR_sR_ap, Nat.reduceEqDiff, Nat.reduceAdd, ↓reduceIte, and_true, true_and, and_false, false_and, or_true, true_or, or_false, false_or, not_true_eq_false, not_false_eq_true, i10, i01, ii01, ii02, ii03, ii04, ii05, ii12, ii13, ii14, ii15, ii20, ii21, ii23, ii24, ii25, ii30, ii31, ii32, ii34, ii35, ii40, ii41, ii42, ii43, ii45, ii50, ii51, ii52, ii53, ii54, bi_z, Option.some.injEq, reduceCtorEq, Nat.reduceLeDiff]
  by_cases w5 : p = 5
  · have e1 := lp_cc F hF hC hfl Fl 0 0 F (by omega) (by omega)
    have e2 := lp_mc F hM2 36 0 0 F (by omega) (by omega)
    have e3 : sA (fun i => clB (mI (sI m 50 2 0) 74 i)) 36 0 0 = sA (fun i => clB (mI m 74 i)) (6 * Fl) (6 * 0) 0 := by
      rw [show 36 = 6 * Fl + (36 - 6 * Fl) by omega, sA_app, sA_zero _ _ _ (fun i hi => ?_)]
      · exact sA_cg _ _ _ (fun i _ _ => by show clB _ = clB _; rw [mI_sI_o (by decide)])
      · show clB _ = 0
        rw [mI_sI_o (by decide), hfl.2.2.2.2.2.2.2.2.2 i (by omega)]
        rfl
    rw [e3] at e2
    replace e1 : f_X10_countClosed_b4 F 0 F c 0 0 = _ := e1
    replace e2 : f_X11_count_b97 F 50 F (sI m 50 2 0) 0 0 = _ := e2
    refine Sim.of (r := sA (fun i => clB (mI m 74 i)) (6 * Fl) (6 * 0) 0) (c' := c) (m' := sI m 50 2 0) ?_ ?_ (h.thr 0)
    · simp only [f_X10_count, f_X10_countClosed, hC, e1, w5, nx_eq, ck_true, br_true, br_false, bd_eq, de_eq, mN_sI_, mK_sI_, mL_sI_, mI_sI_ap, mJ_sI_, mR_sI_, mN_sJ_, mK_sJ_, mL_sJ_, mI_sJ_, mJ_sJ_ap, mR_sJ_, mN_sR_, mK_sR_, mL_sR_, mI_sR_, mJ_sR_, mR_sR_ap, Nat.reduceEqDiff, Nat.reduceAdd, ↓reduceIte, and_true, true_and, and_false, false_and, or_true, true_or, or_false, false_or, not_true_eq_false, not_false_eq_true, i10, i01, ii01, ii02, ii03, ii04, ii05, ii12, ii13, ii14, ii15, ii20, ii21, ii23, ii24, ii25, ii30, ii31, ii32, ii34, ii35, ii40, ii41, ii42, ii43, ii45, ii50, ii51, ii52, ii53, ii54, bi_z, Option.some.injEq, reduceCtorEq, Nat.reduceLeDiff]
    · simp only [f_X11_count, hM, e2, w5, nx_eq, ck_true, br_true, br_false, bd_eq, de_eq, mN_sI_, mK_sI_, mL_sI_, mI_sI_ap, mJ_sI_, mR_sI_, mN_sJ_, mK_sJ_, mL_sJ_, mI_sJ_, mJ_sJ_ap, mR_sJ_, mN_sR_, mK_sR_, mL_sR_, mI_sR_, mJ_sR_, mR_sR_ap, Nat.reduceEqDiff, Nat.reduceAdd, ↓reduceIte, and_true, true_and, and_false, false_and, or_true, true_or, or_false, false_or, not_true_eq_false, not_false_eq_true, i10, i01, ii01, ii02, ii03, ii04, ii05, ii12, ii13, ii14, ii15, ii20, ii21, ii23, ii24, ii25, ii30, ii31, ii32, ii34, ii35, ii40, ii41, ii42, ii43, ii45, ii50, ii51, ii52, ii53, ii54, bi_z, Option.some.injEq, reduceCtorEq, Nat.reduceLeDiff]
  refine Sim.of (r := -1) (c' := c) (m' := sI m 50 2 0) ?_ ?_ (h.thr 0)
  · simp only [f_X10_count, w0, w1, w2, w3, w4, w5, nx_eq, ck_true, br_true, br_false, bd_eq, de_eq, mN_sI_, mK_sI_, mL_sI_, mI_sI_ap, mJ_sI_, mR_sI_, mN_sJ_, mK_sJ_, mL_sJ_, mI_sJ_, mJ_sJ_ap, mR_sJ_, mN_sR_, mK_sR_, mL_sR_, mI_sR_, mJ_sR_, mR_sR_ap, Nat.reduceEqDiff, Nat.reduceAdd, ↓reduceIte, and_true, true_and, and_false, false_and, or_true, true_or, or_false, false_or, not_true_eq_false, not_false_eq_true, i10, i01, ii01, ii02, ii03, ii04, ii05, ii12, ii13, ii14, ii15, ii20, ii21, ii23, ii24, ii25, ii30, ii31, ii32, ii34, ii35, ii40, ii41, ii42, ii43, ii45, ii50, ii51, ii52, ii53, ii54, bi_z, Option.some.injEq, reduceCtorEq, Nat.reduceLeDiff]
  · simp only [f_X11_count, hM, w0, w1, w2, w3, w4, w5, nx_eq, ck_true, br_true, br_false, bd_eq, de_eq, mN_sI_, mK_sI_, mL_sI_, mI_sI_ap, mJ_sI_, mR_sI_, mN_sJ_, mK_sJ_, mL_sJ_, mI_sJ_, mJ_sJ_ap, mR_sJ_, mN_sR_, mK_sR_, mL_sR_, mI_sR_, mJ_sR_, mR_sR_ap, Nat.reduceEqDiff, Nat.reduceAdd, ↓reduceIte, and_true, true_and, and_false, false_and, or_true, true_or, or_false, false_or, not_true_eq_false, not_false_eq_true, i10, i01, ii01, ii02, ii03, ii04, ii05, ii12, ii13, ii14, ii15, ii20, ii21, ii23, ii24, ii25, ii30, ii31, ii32, ii34, ii35, ii40, ii41, ii42, ii43, ii45, ii50, ii51, ii52, ii53, ii54, bi_z, Option.some.injEq, reduceCtorEq, Nat.reduceLeDiff]
