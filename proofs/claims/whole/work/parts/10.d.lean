/-! the reference's tokens -/
theorem wI_wI {σ : Mem} {a : Nat} {g h : Nat → Int32} : wI (wI σ a g) a h = wI σ a h := by
  have e : up1 (up1 (mI σ) a g) a h = up1 (mI σ) a h := by
    funext x y
    unfold up1
    by_cases q : x = a
    · rw [if_pos q]; simp [q]
    · simp [q]
  unfold wI
  exact congrArg (fun z => (σ.1, σ.2.1, σ.2.2.1, z, σ.2.2.2.2.1, σ.2.2.2.2.2)) e
/-- the reference's tape holds the bytes B -/
def MB (m : Mem) (B : Nat → Nat) (n : Nat) : Prop := shM m ∧ n ≤ 800 ∧ ∀ i, i < n → B i < 256 ∧ mI m 51 i = nI (B i)
theorem b51 (m : Mem) (g : Nat → Int32) : mI (wI m 50 g) 51 = mI m 51 := mI_wI_o (by decide)
theorem b50 (m : Mem) (g : Nat → Int32) : mI (wI m 50 g) 50 = g := mI_wI_e
theorem e_smallM (F : Nat) {m : Mem} {B : Nat → Nat} {n p : Nat} {g : Nat → Int32} (h : MB m B n) (g43 : g 43 = nI n) (hp : p ≤ n) : f_X11_isSmall F (wI m 50 g) 50 (nI p) = some (bi (p < n ∧ isL (B p)), wI m 50 g) := by
  obtain ⟨hM, hn, hb⟩ := h
  by_cases e : p < n
  · obtain ⟨b1, b2⟩ := hb p e
    have q1 : ¬ nI n ≤ nI p := nI_ge e (by omega)
    have e1 : (nI (B p) < (97 : Int32)) = (B p < 97) := nI_ltk 97 (by omega) (by decide)
    have e2 : ((122 : Int32) < nI (B p)) = (122 < B p) := nI_ltk (n := 122) _ (by decide) (by omega)
    have v1 := vp_nI (show p < 800 by omega) (show 800 < 2147483648 by decide)
    have n1 := nI_cl (show p < 2147483648 by omega)
    simp only [f_X11_isSmall, mK_wI_, mL_wI_, mR_wI_, hM, b50, b51, g43, q1, v1, n1, b2, e1, e2, br_bi2, nx_eq, ck_true, br_true, br_false, bd_eq, de_eq, mN_sI_, mK_sI_, mL_sI_, mI_sI_ap, mJ_sI_, mR_sI_, mN_sJ_, mK_sJ_, mL_sJ_, mI_sJ_, mJ_sJ_ap, mR_sJ_, mN_sR_, mK_sR_, mL_sR_, mI_sR_, mJ_sR_, mR_sR_ap, Nat.reduceEqDiff, Nat.reduceAdd, ↓reduceIte, and_true, true_and, and_false, false_and, or_true, true_or, or_false, false_or, not_true_eq_false, not_false_eq_true, i10, i01, ii01, ii02, ii03, ii04, ii05, ii12, ii13, ii14, ii15, ii20, ii21, ii23, ii24, ii25, ii30, ii31, ii32, ii34, ii35, ii40, ii41, ii42, ii43, ii45, ii50, ii51, ii52, ii53, ii54, bi_z, Option.some.injEq, reduceCtorEq, Nat.reduceLeDiff]
    refine congrArg (fun z => (z, wI m 50 g)) (bi_c ?_)
    omega
  · have q1 : nI n ≤ nI p := nI_le (by omega) (by omega)
    rw [bi_f (fun z => e z.1)]
    simp only [f_X11_isSmall, mK_wI_, hM, b50, g43, q1, nx_eq, ck_true, br_true, br_false, bd_eq, de_eq, mN_sI_, mK_sI_, mL_sI_, mI_sI_ap, mJ_sI_, mR_sI_, mN_sJ_, mK_sJ_, mL_sJ_, mI_sJ_, mJ_sJ_ap, mR_sJ_, mN_sR_, mK_sR_, mL_sR_, mI_sR_, mJ_sR_, mR_sR_ap, Nat.reduceEqDiff, Nat.reduceAdd, ↓reduceIte, and_true, true_and, and_false, false_and, or_true, true_or, or_false, false_or, not_true_eq_false, not_false_eq_true, i10, i01, ii01, ii02, ii03, ii04, ii05, ii12, ii13, ii14, ii15, ii20, ii21, ii23, ii24, ii25, ii30, ii31, ii32, ii34, ii35, ii40, ii41, ii42, ii43, ii45, ii50, ii51, ii52, ii53, ii54, bi_z, Option.some.injEq, reduceCtorEq, Nat.reduceLeDiff]
theorem e_digitM (F : Nat) {m : Mem} {B : Nat → Nat} {n p : Nat} {g : Nat → Int32} (h : MB m B n) (g43 : g 43 = nI n) (hp : p ≤ n) : f_X11_isDigit F (wI m 50 g) 50 (nI p) = some (bi (p < n ∧ isD (B p)), wI m 50 g) := by
  obtain ⟨hM, hn, hb⟩ := h
  by_cases e : p < n
  · obtain ⟨b1, b2⟩ := hb p e
    have q1 : ¬ nI n ≤ nI p := nI_ge e (by omega)
    have e1 : (nI (B p) < (48 : Int32)) = (B p < 48) := nI_ltk 48 (by omega) (by decide)
    have e2 : ((57 : Int32) < nI (B p)) = (57 < B p) := nI_ltk (n := 57) _ (by decide) (by omega)
    have v1 := vp_nI (show p < 800 by omega) (show 800 < 2147483648 by decide)
    have n1 := nI_cl (show p < 2147483648 by omega)
    simp only [f_X11_isDigit, mK_wI_, mL_wI_, mR_wI_, hM, b50, b51, g43, q1, v1, n1, b2, e1, e2, br_bi2, nx_eq, ck_true, br_true, br_false, bd_eq, de_eq, mN_sI_, mK_sI_, mL_sI_, mI_sI_ap, mJ_sI_, mR_sI_, mN_sJ_, mK_sJ_, mL_sJ_, mI_sJ_, mJ_sJ_ap, mR_sJ_, mN_sR_, mK_sR_, mL_sR_, mI_sR_, mJ_sR_, mR_sR_ap, Nat.reduceEqDiff, Nat.reduceAdd, ↓reduceIte, and_true, true_and, and_false, false_and, or_true, true_or, or_false, false_or, not_true_eq_false, not_false_eq_true, i10, i01, ii01, ii02, ii03, ii04, ii05, ii12, ii13, ii14, ii15, ii20, ii21, ii23, ii24, ii25, ii30, ii31, ii32, ii34, ii35, ii40, ii41, ii42, ii43, ii45, ii50, ii51, ii52, ii53, ii54, bi_z, Option.some.injEq, reduceCtorEq, Nat.reduceLeDiff]
    refine congrArg (fun z => (z, wI m 50 g)) (bi_c ?_)
    omega
  · have q1 : nI n ≤ nI p := nI_le (by omega) (by omega)
    rw [bi_f (fun z => e z.1)]
    simp only [f_X11_isDigit, mK_wI_, hM, b50, g43, q1, nx_eq, ck_true, br_true, br_false, bd_eq, de_eq, mN_sI_, mK_sI_, mL_sI_, mI_sI_ap, mJ_sI_, mR_sI_, mN_sJ_, mK_sJ_, mL_sJ_, mI_sJ_, mJ_sJ_ap, mR_sJ_, mN_sR_, mK_sR_, mL_sR_, mI_sR_, mJ_sR_, mR_sR_ap, Nat.reduceEqDiff, Nat.reduceAdd, ↓reduceIte, and_true, true_and, and_false, false_and, or_true, true_or, or_false, false_or, not_true_eq_false, not_false_eq_true, i10, i01, ii01, ii02, ii03, ii04, ii05, ii12, ii13, ii14, ii15, ii20, ii21, ii23, ii24, ii25, ii30, ii31, ii32, ii34, ii35, ii40, ii41, ii42, ii43, ii45, ii50, ii51, ii52, ii53, ii54, bi_z, Option.some.injEq, reduceCtorEq, Nat.reduceLeDiff]
theorem lp_b0 (F : Nat) {m : Mem} {B : Nat → Nat} {n : Nat} (h : MB m B n) : ∀ k p (g : Nat → Int32) M, p + k = n → k < M → g 43 = nI n → g 44 = nI p → ∃ g', f_X11_take_b0 F 50 M (wI m 50 g) = f_X11_take_b52 F 50 (wI m 50 g') ∧ g' 44 = nI (skW B n p) ∧ ∀ j, j ≠ 44 → g' j = g j := by
  obtain ⟨hM, hn, hb⟩ := h
  intro k
  induction k with
  | zero =>
    intro p g M hp hM2 g43 g44
    obtain ⟨M, rfl⟩ : ∃ x, M = x + 1 := ⟨M - 1, by omega⟩
    obtain rfl : p = n := by omega
    have q1 : nI p ≤ nI p := nI_le (Nat.le_refl _) (by omega)
    refine ⟨g, ?_, by rw [skW_e]; exact g44, fun _ _ => rfl⟩
    show f_X11_take_b0_it F (f_X11_take_b0 F 50 M) 50 (wI m 50 g) = _
    simp only [f_X11_take_b0_it, mK_wI_, hM, b50, g43, g44, q1, nx_eq, ck_true, br_true, br_false, bd_eq, de_eq, mN_sI_, mK_sI_, mL_sI_, mI_sI_ap, mJ_sI_, mR_sI_, mN_sJ_, mK_sJ_, mL_sJ_, mI_sJ_, mJ_sJ_ap, mR_sJ_, mN_sR_, mK_sR_, mL_sR_, mI_sR_, mJ_sR_, mR_sR_ap, Nat.reduceEqDiff, Nat.reduceAdd, ↓reduceIte, and_true, true_and, and_false, false_and, or_true, true_or, or_false, false_or, not_true_eq_false, not_false_eq_true, i10, i01, ii01, ii02, ii03, ii04, ii05, ii12, ii13, ii14, ii15, ii20, ii21, ii23, ii24, ii25, ii30, ii31, ii32, ii34, ii35, ii40, ii41, ii42, ii43, ii45, ii50, ii51, ii52, ii53, ii54, bi_z, Option.some.injEq, reduceCtorEq, Nat.reduceLeDiff]
  | succ k ih =>
    intro p g M hp hM2 g43 g44
    obtain ⟨M, rfl⟩ : ∃ x, M = x + 1 := ⟨M - 1, by omega⟩
    have hpn : p < n := by omega
    obtain ⟨b1, b2⟩ := hb p hpn
    have q1 : ¬ nI n ≤ nI p := nI_ge hpn (by omega)
    have v1 := vp_nI (show p < 800 by omega) (show 800 < 2147483648 by decide)
    have n1 := nI_cl (show p < 2147483648 by omega)
    have e1 : (nI (B p) = (10 : Int32)) = (B p = 10) := nI_eqk 10 (by omega) (by decide)
    have e2 : (nI (B p) = (32 : Int32)) = (B p = 32) := nI_eqk 32 (by omega) (by decide)
    by_cases w : isW (B p)
    · obtain ⟨g', a1, a2, a3⟩ := ih (p + 1) (va_up g 44 (nI (p + 1))) M (by omega) (by omega) (by rw [va_up_ne _ _ (by decide)]; exact g43) (va_up_self _ _ _)
      refine ⟨g', ?_, by rw [skW_w hpn w]; exact a2, fun j hj => by rw [a3 j hj, va_up_ne _ _ hj]⟩
      rw [← a1]
      show f_X11_take_b0_it F (f_X11_take_b0 F 50 M) 50 (wI m 50 g) = _
      by_cases w1 : B p = 10
      · have w1' : (nI (B p) = (10 : Int32)) = True := by rw [e1]; exact eq_true w1
        simp only [f_X11_take_b0_it, f_X11_take_b39, mK_wI_, mL_wI_, mR_wI_, hM, b50, b51, g43, g44, q1, v1, n1, b2, w1', sI_wI, nI_1, nx_eq, ck_true, br_true, br_false, bd_eq, de_eq, mN_sI_, mK_sI_, mL_sI_, mI_sI_ap, mJ_sI_, mR_sI_, mN_sJ_, mK_sJ_, mL_sJ_, mI_sJ_, mJ_sJ_ap, mR_sJ_, mN_sR_, mK_sR_, mL_sR_, mI_sR_, mJ_sR_, mR_sR_ap, Nat.reduceEqDiff, Nat.reduceAdd, ↓reduceIte, and_true, true_and, and_false, false_and, or_true, true_or, or_false, false_or, not_true_eq_false, not_false_eq_true, i10, i01, ii01, ii02, ii03, ii04, ii05, ii12, ii13, ii14, ii15, ii20, ii21, ii23, ii24, ii25, ii30, ii31, ii32, ii34, ii35, ii40, ii41, ii42, ii43, ii45, ii50, ii51, ii52, ii53, ii54, bi_z, Option.some.injEq, reduceCtorEq, Nat.reduceLeDiff]
      · have w2 : B p = 32 := w.resolve_left w1
        have w1' : (nI (B p) = (10 : Int32)) = False := by rw [e1]; exact eq_false w1
        have w2' : (nI (B p) = (32 : Int32)) = True := by rw [e2]; exact eq_true w2
        simp only [f_X11_take_b0_it, f_X11_take_b39, mK_wI_, mL_wI_, mR_wI_, hM, b50, b51, g43, g44, q1, v1, n1, b2, w1', w2', sI_wI, nI_1, nx_eq, ck_true, br_true, br_false, bd_eq, de_eq, mN_sI_, mK_sI_, mL_sI_, mI_sI_ap, mJ_sI_, mR_sI_, mN_sJ_, mK_sJ_, mL_sJ_, mI_sJ_, mJ_sJ_ap, mR_sJ_, mN_sR_, mK_sR_, mL_sR_, mI_sR_, mJ_sR_, mR_sR_ap, Nat.reduceEqDiff, Nat.reduceAdd, ↓reduceIte, and_true, true_and, and_false, false_and, or_true, true_or, or_false, false_or, not_true_eq_false, not_false_eq_true, i10, i01, ii01, ii02, ii03, ii04, ii05, ii12, ii13, ii14, ii15, ii20, ii21, ii23, ii24, ii25, ii30, ii31, ii32, ii34, ii35, ii40, ii41, ii42, ii43, ii45, ii50, ii51, ii52, ii53, ii54, bi_z, Option.some.injEq, reduceCtorEq, Nat.reduceLeDiff]
    · have w1 : ¬ B p = 10 := fun e => w (Or.inl e)
      have w2 : ¬ B p = 32 := fun e => w (Or.inr e)
      refine ⟨g, ?_, by rw [skW_n w]; exact g44, fun _ _ => rfl⟩
      show f_X11_take_b0_it F (f_X11_take_b0 F 50 M) 50 (wI m 50 g) = _
      simp only [f_X11_take_b0_it, mK_wI_, mL_wI_, mR_wI_, hM, b50, b51, g43, g44, q1, v1, n1, b2, e1, w1, e2, w2, nx_eq, ck_true, br_true, br_false, bd_eq, de_eq, mN_sI_, mK_sI_, mL_sI_, mI_sI_ap, mJ_sI_, mR_sI_, mN_sJ_, mK_sJ_, mL_sJ_, mI_sJ_, mJ_sJ_ap, mR_sJ_, mN_sR_, mK_sR_, mL_sR_, mI_sR_, mJ_sR_, mR_sR_ap, Nat.reduceEqDiff, Nat.reduceAdd, ↓reduceIte, and_true, true_and, and_false, false_and, or_true, true_or, or_false, false_or, not_true_eq_false, not_false_eq_true, i10, i01, ii01, ii02, ii03, ii04, ii05, ii12, ii13, ii14, ii15, ii20, ii21, ii23, ii24, ii25, ii30, ii31, ii32, ii34, ii35, ii40, ii41, ii42, ii43, ii45, ii50, ii51, ii52, ii53, ii54, bi_z, Option.some.injEq, reduceCtorEq, Nat.reduceLeDiff]
theorem e_sp2 (F : Nat) {m : Mem} {B : Nat → Nat} {n p e : Nat} {g : Nat → Int32} (h : MB m B n) (hp : p < e) (he : e ≤ n) {a b : Nat} (ha : 0 < a ∧ a < 128) (hb : 0 < b ∧ b < 128) : f_X11_spells F (wI m 50 g) 50 (nI p) (nI e) (nI a) (nI b) (0 : Int32) (0 : Int32) (0 : Int32) = some (bi (e - p = 2 ∧ B (p + 0) = a ∧ B (p + 1) = b), wI m 50 g) := by
  obtain ⟨hM, hn, hb⟩ := h
  have zz : (0 : Int32) ≤ 0 := by decide
  have es : nI e - nI p = nI (e - p) := pk_sub (by omega)
  have el : (nI (e - p) = (2 : Int32)) = (e - p = 2) := nI_eqk 2 (by omega) (by decide)
  have b0' : bz (0 : Int32) := Or.inl rfl
  have b1' : bz (1 : Int32) := Or.inr rfl
  have c2 : ((2 : Int32) ≤ 2) = True := eq_true (by decide)
  have c3 : ((2 : Int32) ≤ 3) = True := eq_true (by decide)
  have c4 : ((2 : Int32) ≤ 4) = True := eq_true (by decide)
  by_cases q : e - p = 2
  · have el' : (nI (e - p) = (2 : Int32)) = True := by rw [el]; exact eq_true q
    have v0 := vp_nI (show p < 800 by omega) (show 800 < 2147483648 by decide)
    have n0 := nI_cl (show p < 2147483648 by omega)
    have d0 := (hb p (by omega)).2
    have x0 : (nI (B p) = nI a) = (B (p + 0) = a) := nI_eqk _ (by have := (hb p (by omega)).1; omega) (by omega)
    have v1 := vp_nI (show p + 1 < 800 by omega) (show 800 < 2147483648 by decide)
    have n1 := nI_cl (show p + 1 < 2147483648 by omega)
    have d1 := (hb (p + 1) (by omega)).2
    have a1 : nI p + (1 : Int32) = nI (p + 1) := nI_add p 1
    have x1 : (nI (B (p + 1)) = nI b) = (B (p + 1) = b) := nI_eqk _ (by have := (hb (p + 1) (by omega)).1; omega) (by omega)
    by_cases y0 : B (p + 0) = a
    · by_cases y1 : B (p + 1) = b
      · rw [bi_t ⟨q, y0, y1⟩]
        simp only [f_X11_spells, f_X11_spells_b28, f_X11_spells_b65, f_X11_spells_b66, f_X11_spells_b97, f_X11_spells_b99, f_X11_spells_b128, f_X11_spells_b130, f_X11_spells_b159, f_X11_spells_b161, mK_wI_, mL_wI_, mR_wI_, hM, b51, v0, n0, d0, x0, v1, n1, d1, a1, x1, zz, es, el', b0', b1', c2, c3, c4, y0, y1, nx_eq, ck_true, br_true, br_false, bd_eq, de_eq, mN_sI_, mK_sI_, mL_sI_, mI_sI_ap, mJ_sI_, mR_sI_, mN_sJ_, mK_sJ_, mL_sJ_, mI_sJ_, mJ_sJ_ap, mR_sJ_, mN_sR_, mK_sR_, mL_sR_, mI_sR_, mJ_sR_, mR_sR_ap, Nat.reduceEqDiff, Nat.reduceAdd, ↓reduceIte, and_true, true_and, and_false, false_and, or_true, true_or, or_false, false_or, not_true_eq_false, not_false_eq_true, i10, i01, ii01, ii02, ii03, ii04, ii05, ii12, ii13, ii14, ii15, ii20, ii21, ii23, ii24, ii25, ii30, ii31, ii32, ii34, ii35, ii40, ii41, ii42, ii43, ii45, ii50, ii51, ii52, ii53, ii54, bi_z, Option.some.injEq, reduceCtorEq, Nat.reduceLeDiff]
      · rw [bi_f (fun z => y1 z.2.2)]
        simp only [f_X11_spells, f_X11_spells_b28, f_X11_spells_b65, f_X11_spells_b66, f_X11_spells_b97, f_X11_spells_b99, f_X11_spells_b128, f_X11_spells_b130, f_X11_spells_b159, f_X11_spells_b161, mK_wI_, mL_wI_, mR_wI_, hM, b51, v0, n0, d0, x0, v1, n1, d1, a1, x1, zz, es, el', b0', b1', c2, c3, c4, y0, y1, nx_eq, ck_true, br_true, br_false, bd_eq, de_eq, mN_sI_, mK_sI_, mL_sI_, mI_sI_ap, mJ_sI_, mR_sI_, mN_sJ_, mK_sJ_, mL_sJ_, mI_sJ_, mJ_sJ_ap, mR_sJ_, mN_sR_, mK_sR_, mL_sR_, mI_sR_, mJ_sR_, mR_sR_ap, Nat.reduceEqDiff, Nat.reduceAdd, ↓reduceIte, and_true, true_and, and_false, false_and, or_true, true_or, or_false, false_or, not_true_eq_false, not_false_eq_true, i10, i01, ii01, ii02, ii03, ii04, ii05, ii12, ii13, ii14, ii15, ii20, ii21, ii23, ii24, ii25, ii30, ii31, ii32, ii34, ii35, ii40, ii41, ii42, ii43, ii45, ii50, ii51, ii52, ii53, ii54, bi_z, Option.some.injEq, reduceCtorEq, Nat.reduceLeDiff]
    · rw [bi_f (fun z => y0 z.2.1)]
      simp only [f_X11_spells, f_X11_spells_b28, f_X11_spells_b65, f_X11_spells_b66, f_X11_spells_b97, f_X11_spells_b99, f_X11_spells_b128, f_X11_spells_b130, f_X11_spells_b159, f_X11_spells_b161, mK_wI_, mL_wI_, mR_wI_, hM, b51, v0, n0, d0, x0, v1, n1, d1, a1, x1, zz, es, el', b0', b1', c2, c3, c4, y0, nx_eq, ck_true, br_true, br_false, bd_eq, de_eq, mN_sI_, mK_sI_, mL_sI_, mI_sI_ap, mJ_sI_, mR_sI_, mN_sJ_, mK_sJ_, mL_sJ_, mI_sJ_, mJ_sJ_ap, mR_sJ_, mN_sR_, mK_sR_, mL_sR_, mI_sR_, mJ_sR_, mR_sR_ap, Nat.reduceEqDiff, Nat.reduceAdd, ↓reduceIte, and_true, true_and, and_false, false_and, or_true, true_or, or_false, false_or, not_true_eq_false, not_false_eq_true, i10, i01, ii01, ii02, ii03, ii04, ii05, ii12, ii13, ii14, ii15, ii20, ii21, ii23, ii24, ii25, ii30, ii31, ii32, ii34, ii35, ii40, ii41, ii42, ii43, ii45, ii50, ii51, ii52, ii53, ii54, bi_z, Option.some.injEq, reduceCtorEq, Nat.reduceLeDiff]
  · rw [bi_f (fun z => q z.1)]
    simp only [f_X11_spells, f_X11_spells_b28, f_X11_spells_b65, f_X11_spells_b66, f_X11_spells_b97, f_X11_spells_b99, f_X11_spells_b128, f_X11_spells_b130, f_X11_spells_b159, f_X11_spells_b161, zz, es, el, b0', b1', c2, c3, c4, q, nx_eq, ck_true, br_true, br_false, bd_eq, de_eq, mN_sI_, mK_sI_, mL_sI_, mI_sI_ap, mJ_sI_, mR_sI_, mN_sJ_, mK_sJ_, mL_sJ_, mI_sJ_, mJ_sJ_ap, mR_sJ_, mN_sR_, mK_sR_, mL_sR_, mI_sR_, mJ_sR_, mR_sR_ap, Nat.reduceEqDiff, Nat.reduceAdd, ↓reduceIte, and_true, true_and, and_false, false_and, or_true, true_or, or_false, false_or, not_true_eq_false, not_false_eq_true, i10, i01, ii01, ii02, ii03, ii04, ii05, ii12, ii13, ii14, ii15, ii20, ii21, ii23, ii24, ii25, ii30, ii31, ii32, ii34, ii35, ii40, ii41, ii42, ii43, ii45, ii50, ii51, ii52, ii53, ii54, bi_z, Option.some.injEq, reduceCtorEq, Nat.reduceLeDiff]
theorem e_sp3 (F : Nat) {m : Mem} {B : Nat → Nat} {n p e : Nat} {g : Nat → Int32} (h : MB m B n) (hp : p < e) (he : e ≤ n) {a b c : Nat} (ha : 0 < a ∧ a < 128) (hb : 0 < b ∧ b < 128) (hc : 0 < c ∧ c < 128) : f_X11_spells F (wI m 50 g) 50 (nI p) (nI e) (nI a) (nI b) (nI c) (0 : Int32) (0 : Int32) = some (bi (e - p = 3 ∧ B (p + 0) = a ∧ B (p + 1) = b ∧ B (p + 2) = c), wI m 50 g) := by
  obtain ⟨hM, hn, hb⟩ := h
  have zc : ¬ nI c ≤ 0 := nI_nle hc.1 (by omega)
  have zz : (0 : Int32) ≤ 0 := by decide
  have es : nI e - nI p = nI (e - p) := pk_sub (by omega)
  have el : (nI (e - p) = (3 : Int32)) = (e - p = 3) := nI_eqk 3 (by omega) (by decide)
  have b0' : bz (0 : Int32) := Or.inl rfl
  have b1' : bz (1 : Int32) := Or.inr rfl
  have c2 : ((3 : Int32) ≤ 2) = False := eq_false (by decide)
  have c3 : ((3 : Int32) ≤ 3) = True := eq_true (by decide)
  have c4 : ((3 : Int32) ≤ 4) = True := eq_true (by decide)
  by_cases q : e - p = 3
  · have el' : (nI (e - p) = (3 : Int32)) = True := by rw [el]; exact eq_true q
    have v0 := vp_nI (show p < 800 by omega) (show 800 < 2147483648 by decide)
    have n0 := nI_cl (show p < 2147483648 by omega)
    have d0 := (hb p (by omega)).2
    have x0 : (nI (B p) = nI a) = (B (p + 0) = a) := nI_eqk _ (by have := (hb p (by omega)).1; omega) (by omega)
    have v1 := vp_nI (show p + 1 < 800 by omega) (show 800 < 2147483648 by decide)
    have n1 := nI_cl (show p + 1 < 2147483648 by omega)
    have d1 := (hb (p + 1) (by omega)).2
    have a1 : nI p + (1 : Int32) = nI (p + 1) := nI_add p 1
    have x1 : (nI (B (p + 1)) = nI b) = (B (p + 1) = b) := nI_eqk _ (by have := (hb (p + 1) (by omega)).1; omega) (by omega)
    have v2 := vp_nI (show p + 2 < 800 by omega) (show 800 < 2147483648 by decide)
    have n2 := nI_cl (show p + 2 < 2147483648 by omega)
    have d2 := (hb (p + 2) (by omega)).2
    have a2 : nI p + (2 : Int32) = nI (p + 2) := nI_add p 2
    have x2 : (nI (B (p + 2)) = nI c) = (B (p + 2) = c) := nI_eqk _ (by have := (hb (p + 2) (by omega)).1; omega) (by omega)
    by_cases y0 : B (p + 0) = a
    · by_cases y1 : B (p + 1) = b
      · by_cases y2 : B (p + 2) = c
        · rw [bi_t ⟨q, y0, y1, y2⟩]
          simp only [f_X11_spells, f_X11_spells_b28, f_X11_spells_b65, f_X11_spells_b66, f_X11_spells_b97, f_X11_spells_b99, f_X11_spells_b128, f_X11_spells_b130, f_X11_spells_b159, f_X11_spells_b161, mK_wI_, mL_wI_, mR_wI_, hM, b51, v0, n0, d0, x0, v1, n1, d1, a1, x1, v2, n2, d2, a2, x2, zz, es, el', b0', b1', c2, c3, c4, zc, y0, y1, y2, nx_eq, ck_true, br_true, br_false, bd_eq, de_eq, mN_sI_, mK_sI_, mL_sI_, mI_sI_ap, mJ_sI_, mR_sI_, mN_sJ_, mK_sJ_, mL_sJ_, mI_sJ_, mJ_sJ_ap, mR_sJ_, mN_sR_, mK_sR_, mL_sR_, mI_sR_, mJ_sR_, mR_sR_ap, Nat.reduceEqDiff, Nat.reduceAdd, ↓reduceIte, and_true, true_and, and_false, false_and, or_true, true_or, or_false, false_or, not_true_eq_false, not_false_eq_true, i10, i01, ii01, ii02, ii03, ii04, ii05, ii12, ii13, ii14, ii15, ii20, ii21, ii23, ii24, ii25, ii30, ii31, ii32, ii34, ii35, ii40, ii41, ii42, ii43, ii45, ii50, ii51, ii52, ii53, ii54, bi_z, Option.some.injEq, reduceCtorEq, Nat.reduceLeDiff]
        · rw [bi_f (fun z => y2 z.2.2.2)]
          simp only [f_X11_spells, f_X11_spells_b28, f_X11_spells_b65, f_X11_spells_b66, f_X11_spells_b97, f_X11_spells_b99, f_X11_spells_b128, f_X11_spells_b130, f_X11_spells_b159, f_X11_spells_b161, mK_wI_, mL_wI_, mR_wI_, hM, b51, v0, n0, d0, x0, v1, n1, d1, a1, x1, v2, n2, d2, a2, x2, zz, es, el', b0', b1', c2, c3, c4, zc, y0, y1, y2, nx_eq, ck_true, br_true, br_false, bd_eq, de_eq, mN_sI_, mK_sI_, mL_sI_, mI_sI_ap, mJ_sI_, mR_sI_, mN_sJ_, mK_sJ_, mL_sJ_, mI_sJ_, mJ_sJ_ap, mR_sJ_, mN_sR_, mK_sR_, mL_sR_, mI_sR_, mJ_sR_, mR_sR_ap, Nat.reduceEqDiff, Nat.reduceAdd, ↓reduceIte, and_true, true_and, and_false, false_and, or_true, true_or, or_false, false_or, not_true_eq_false, not_false_eq_true, i10, i01, ii01, ii02, ii03, ii04, ii05, ii12, ii13, ii14, ii15, ii20, ii21, ii23, ii24, ii25, ii30, ii31, ii32, ii34, ii35, ii40, ii41, ii42, ii43, ii45, ii50, ii51, ii52, ii53, ii54, bi_z, Option.some.injEq, reduceCtorEq, Nat.reduceLeDiff]
      · rw [bi_f (fun z => y1 z.2.2.1)]
        simp only [f_X11_spells, f_X11_spells_b28, f_X11_spells_b65, f_X11_spells_b66, f_X11_spells_b97, f_X11_spells_b99, f_X11_spells_b128, f_X11_spells_b130, f_X11_spells_b159, f_X11_spells_b161, mK_wI_, mL_wI_, mR_wI_, hM, b51, v0, n0, d0, x0, v1, n1, d1, a1, x1, v2, n2, d2, a2, x2, zz, es, el', b0', b1', c2, c3, c4, zc, y0, y1, nx_eq, ck_true, br_true, br_false, bd_eq, de_eq, mN_sI_, mK_sI_, mL_sI_, mI_sI_ap, mJ_sI_, mR_sI_, mN_sJ_, mK_sJ_, mL_sJ_, mI_sJ_, mJ_sJ_ap, mR_sJ_, mN_sR_, mK_sR_, mL_sR_, mI_sR_, mJ_sR_, mR_sR_ap, Nat.reduceEqDiff, Nat.reduceAdd, ↓reduceIte, and_true, true_and, and_false, false_and, or_true, true_or, or_false, false_or, not_true_eq_false, not_false_eq_true, i10, i01, ii01, ii02, ii03, ii04, ii05, ii12, ii13, ii14, ii15, ii20, ii21, ii23, ii24, ii25, ii30, ii31, ii32, ii34, ii35, ii40, ii41, ii42, ii43, ii45, ii50, ii51, ii52, ii53, ii54, bi_z, Option.some.injEq, reduceCtorEq, Nat.reduceLeDiff]
    · rw [bi_f (fun z => y0 z.2.1)]
      simp only [f_X11_spells, f_X11_spells_b28, f_X11_spells_b65, f_X11_spells_b66, f_X11_spells_b97, f_X11_spells_b99, f_X11_spells_b128, f_X11_spells_b130, f_X11_spells_b159, f_X11_spells_b161, mK_wI_, mL_wI_, mR_wI_, hM, b51, v0, n0, d0, x0, v1, n1, d1, a1, x1, v2, n2, d2, a2, x2, zz, es, el', b0', b1', c2, c3, c4, zc, y0, nx_eq, ck_true, br_true, br_false, bd_eq, de_eq, mN_sI_, mK_sI_, mL_sI_, mI_sI_ap, mJ_sI_, mR_sI_, mN_sJ_, mK_sJ_, mL_sJ_, mI_sJ_, mJ_sJ_ap, mR_sJ_, mN_sR_, mK_sR_, mL_sR_, mI_sR_, mJ_sR_, mR_sR_ap, Nat.reduceEqDiff, Nat.reduceAdd, ↓reduceIte, and_true, true_and, and_false, false_and, or_true, true_or, or_false, false_or, not_true_eq_false, not_false_eq_true, i10, i01, ii01, ii02, ii03, ii04, ii05, ii12, ii13, ii14, ii15, ii20, ii21, ii23, ii24, ii25, ii30, ii31, ii32, ii34, ii35, ii40, ii41, ii42, ii43, ii45, ii50, ii51, ii52, ii53, ii54, bi_z, Option.some.injEq, reduceCtorEq, Nat.reduceLeDiff]
  · rw [bi_f (fun z => q z.1)]
    simp only [f_X11_spells, f_X11_spells_b28, f_X11_spells_b65, f_X11_spells_b66, f_X11_spells_b97, f_X11_spells_b99, f_X11_spells_b128, f_X11_spells_b130, f_X11_spells_b159, f_X11_spells_b161, zz, es, el, b0', b1', c2, c3, c4, zc, q, nx_eq, ck_true, br_true, br_false, bd_eq, de_eq, mN_sI_, mK_sI_, mL_sI_, mI_sI_ap, mJ_sI_, mR_sI_, mN_sJ_, mK_sJ_, mL_sJ_, mI_sJ_, mJ_sJ_ap, mR_sJ_, mN_sR_, mK_sR_, mL_sR_, mI_sR_, mJ_sR_, mR_sR_ap, Nat.reduceEqDiff, Nat.reduceAdd, ↓reduceIte, and_true, true_and, and_false, false_and, or_true, true_or, or_false, false_or, not_true_eq_false, not_false_eq_true, i10, i01, ii01, ii02, ii03, ii04, ii05, ii12, ii13, ii14, ii15, ii20, ii21, ii23, ii24, ii25, ii30, ii31, ii32, ii34, ii35, ii40, ii41, ii42, ii43, ii45, ii50, ii51, ii52, ii53, ii54, bi_z, Option.some.injEq, reduceCtorEq, Nat.reduceLeDiff]
theorem e_sp4 (F : Nat) {m : Mem} {B : Nat → Nat} {n p e : Nat} {g : Nat → Int32} (h : MB m B n) (hp : p < e) (he : e ≤ n) {a b c d : Nat} (ha : 0 < a ∧ a < 128) (hb : 0 < b ∧ b < 128) (hc : 0 < c ∧ c < 128) (hd : 0 < d ∧ d < 128) : f_X11_spells F (wI m 50 g) 50 (nI p) (nI e) (nI a) (nI b) (nI c) (nI d) (0 : Int32) = some (bi (e - p = 4 ∧ B (p + 0) = a ∧ B (p + 1) = b ∧ B (p + 2) = c ∧ B (p + 3) = d), wI m 50 g) := by
  obtain ⟨hM, hn, hb⟩ := h
  have zc : ¬ nI c ≤ 0 := nI_nle hc.1 (by omega)
  have zd : ¬ nI d ≤ 0 := nI_nle hd.1 (by omega)
  have zz : (0 : Int32) ≤ 0 := by decide
  have es : nI e - nI p = nI (e - p) := pk_sub (by omega)
  have el : (nI (e - p) = (4 : Int32)) = (e - p = 4) := nI_eqk 4 (by omega) (by decide)
  have b0' : bz (0 : Int32) := Or.inl rfl
  have b1' : bz (1 : Int32) := Or.inr rfl
  have c2 : ((4 : Int32) ≤ 2) = False := eq_false (by decide)
  have c3 : ((4 : Int32) ≤ 3) = False := eq_false (by decide)
  have c4 : ((4 : Int32) ≤ 4) = True := eq_true (by decide)
  by_cases q : e - p = 4
  · have el' : (nI (e - p) = (4 : Int32)) = True := by rw [el]; exact eq_true q
    have v0 := vp_nI (show p < 800 by omega) (show 800 < 2147483648 by decide)
    have n0 := nI_cl (show p < 2147483648 by omega)
    have d0 := (hb p (by omega)).2
    have x0 : (nI (B p) = nI a) = (B (p + 0) = a) := nI_eqk _ (by have := (hb p (by omega)).1; omega) (by omega)
    have v1 := vp_nI (show p + 1 < 800 by omega) (show 800 < 2147483648 by decide)
    have n1 := nI_cl (show p + 1 < 2147483648 by omega)
    have d1 := (hb (p + 1) (by omega)).2
    have a1 : nI p + (1 : Int32) = nI (p + 1) := nI_add p 1
    have x1 : (nI (B (p + 1)) = nI b) = (B (p + 1) = b) := nI_eqk _ (by have := (hb (p + 1) (by omega)).1; omega) (by omega)
    have v2 := vp_nI (show p + 2 < 800 by omega) (show 800 < 2147483648 by decide)
    have n2 := nI_cl (show p + 2 < 2147483648 by omega)
    have d2 := (hb (p + 2) (by omega)).2
    have a2 : nI p + (2 : Int32) = nI (p + 2) := nI_add p 2
    have x2 : (nI (B (p + 2)) = nI c) = (B (p + 2) = c) := nI_eqk _ (by have := (hb (p + 2) (by omega)).1; omega) (by omega)
    have v3 := vp_nI (show p + 3 < 800 by omega) (show 800 < 2147483648 by decide)
    have n3 := nI_cl (show p + 3 < 2147483648 by omega)
    have d3 := (hb (p + 3) (by omega)).2
    have a3 : nI p + (3 : Int32) = nI (p + 3) := nI_add p 3
    have x3 : (nI (B (p + 3)) = nI d) = (B (p + 3) = d) := nI_eqk _ (by have := (hb (p + 3) (by omega)).1; omega) (by omega)
    by_cases y0 : B (p + 0) = a
    · by_cases y1 : B (p + 1) = b
      · by_cases y2 : B (p + 2) = c
        · by_cases y3 : B (p + 3) = d
          · rw [bi_t ⟨q, y0, y1, y2, y3⟩]
            simp only [f_X11_spells, f_X11_spells_b28, f_X11_spells_b65, f_X11_spells_b66, f_X11_spells_b97, f_X11_spells_b99, f_X11_spells_b128, f_X11_spells_b130, f_X11_spells_b159, f_X11_spells_b161, mK_wI_, mL_wI_, mR_wI_, hM, b51, v0, n0, d0, x0, v1, n1, d1, a1, x1, v2, n2, d2, a2, x2, v3, n3, d3, a3, x3, zz, es, el', b0', b1', c2, c3, c4, zc, zd, y0, y1, y2, y3, nx_eq, ck_true, br_true, br_false, bd_eq, de_eq, mN_sI_, mK_sI_, mL_sI_, mI_sI_ap, mJ_sI_, mR_sI_, mN_sJ_, mK_sJ_, mL_sJ_, mI_sJ_, mJ_sJ_ap, mR_sJ_, mN_sR_, mK_sR_, mL_sR_, mI_sR_, mJ_sR_, mR_sR_ap, Nat.reduceEqDiff, Nat.reduceAdd, ↓reduceIte, and_true, true_and, and_false, false_and, or_true, true_or, or_false, false_or, not_true_eq_false, not_false_eq_true, i10, i01, ii01, ii02, ii03, ii04, ii05, ii12, ii13, ii14, ii15, ii20, ii21, ii23, ii24, ii25, ii30, ii31, ii32, ii34, ii35, ii40, ii41, ii42, ii43, ii45, ii50, ii51, ii52, ii53, ii54, bi_z, Option.some.injEq, reduceCtorEq, Nat.reduceLeDiff]
          · rw [bi_f (fun z => y3 z.2.2.2.2)]
            simp only [f_X11_spells, f_X11_spells_b28, f_X11_spells_b65, f_X11_spells_b66, f_X11_spells_b97, f_X11_spells_b99, f_X11_spells_b128, f_X11_spells_b130, f_X11_spells_b159, f_X11_spells_b161, mK_wI_, mL_wI_, mR_wI_, hM, b51, v0, n0, d0, x0, v1, n1, d1, a1, x1, v2, n2, d2, a2, x2, v3, n3, d3, a3, x3, zz, es, el', b0', b1', c2, c3, c4, zc, zd, y0, y1, y2, y3, nx_eq, ck_true, br_true, br_false, bd_eq, de_eq, mN_sI_, mK_sI_, mL_sI_, mI_sI_ap, mJ_sI_, mR_sI_, mN_sJ_, mK_sJ_, mL_sJ_, mI_sJ_, mJ_sJ_ap, mR_sJ_, mN_sR_, mK_sR_, mL_sR_, mI_sR_, mJ_sR_, mR_sR_ap, Nat.reduceEqDiff, Nat.reduceAdd, ↓reduceIte, and_true, true_and, and_false, false_and, or_true, true_or, or_false, false_or, not_true_eq_false, not_false_eq_true, i10, i01, ii01, ii02, ii03, ii04, ii05, ii12, ii13, ii14, ii15, ii20, ii21, ii23, ii24, ii25, ii30, ii31, ii32, ii34, ii35, ii40, ii41, ii42, ii43, ii45, ii50, ii51, ii52, ii53, ii54, bi_z, Option.some.injEq, reduceCtorEq, Nat.reduceLeDiff]
        · rw [bi_f (fun z => y2 z.2.2.2.1)]
          simp only [f_X11_spells, f_X11_spells_b28, f_X11_spells_b65, f_X11_spells_b66, f_X11_spells_b97, f_X11_spells_b99, f_X11_spells_b128, f_X11_spells_b130, f_X11_spells_b159, f_X11_spells_b161, mK_wI_, mL_wI_, mR_wI_, hM, b51, v0, n0, d0, x0, v1, n1, d1, a1, x1, v2, n2, d2, a2, x2, v3, n3, d3, a3, x3, zz, es, el', b0', b1', c2, c3, c4, zc, zd, y0, y1, y2, nx_eq, ck_true, br_true, br_false, bd_eq, de_eq, mN_sI_, mK_sI_, mL_sI_, mI_sI_ap, mJ_sI_, mR_sI_, mN_sJ_, mK_sJ_, mL_sJ_, mI_sJ_, mJ_sJ_ap, mR_sJ_, mN_sR_, mK_sR_, mL_sR_, mI_sR_, mJ_sR_, mR_sR_ap, Nat.reduceEqDiff, Nat.reduceAdd, ↓reduceIte, and_true, true_and, and_false, false_and, or_true, true_or, or_false, false_or, not_true_eq_false, not_false_eq_true, i10, i01, ii01, ii02, ii03, ii04, ii05, ii12, ii13, ii14, ii15, ii20, ii21, ii23, ii24, ii25, ii30, ii31, ii32, ii34, ii35, ii40, ii41, ii42, ii43, ii45, ii50, ii51, ii52, ii53, ii54, bi_z, Option.some.injEq, reduceCtorEq, Nat.reduceLeDiff]
      · rw [bi_f (fun z => y1 z.2.2.1)]
        simp only [f_X11_spells, f_X11_spells_b28, f_X11_spells_b65, f_X11_spells_b66, f_X11_spells_b97, f_X11_spells_b99, f_X11_spells_b128, f_X11_spells_b130, f_X11_spells_b159, f_X11_spells_b161, mK_wI_, mL_wI_, mR_wI_, hM, b51, v0, n0, d0, x0, v1, n1, d1, a1, x1, v2, n2, d2, a2, x2, v3, n3, d3, a3, x3, zz, es, el', b0', b1', c2, c3, c4, zc, zd, y0, y1, nx_eq, ck_true, br_true, br_false, bd_eq, de_eq, mN_sI_, mK_sI_, mL_sI_, mI_sI_ap, mJ_sI_, mR_sI_, mN_sJ_, mK_sJ_, mL_sJ_, mI_sJ_, mJ_sJ_ap, mR_sJ_, mN_sR_, mK_sR_, mL_sR_, mI_sR_, mJ_sR_, mR_sR_ap, Nat.reduceEqDiff, Nat.reduceAdd, ↓reduceIte, and_true, true_and, and_false, false_and, or_true, true_or, or_false, false_or, not_true_eq_false, not_false_eq_true, i10, i01, ii01, ii02, ii03, ii04, ii05, ii12, ii13, ii14, ii15, ii20, ii21, ii23, ii24, ii25, ii30, ii31, ii32, ii34, ii35, ii40, ii41, ii42, ii43, ii45, ii50, ii51, ii52, ii53, ii54, bi_z, Option.some.injEq, reduceCtorEq, Nat.reduceLeDiff]
    · rw [bi_f (fun z => y0 z.2.1)]
      simp only [f_X11_spells, f_X11_spells_b28, f_X11_spells_b65, f_X11_spells_b66, f_X11_spells_b97, f_X11_spells_b99, f_X11_spells_b128, f_X11_spells_b130, f_X11_spells_b159, f_X11_spells_b161, mK_wI_, mL_wI_, mR_wI_, hM, b51, v0, n0, d0, x0, v1, n1, d1, a1, x1, v2, n2, d2, a2, x2, v3, n3, d3, a3, x3, zz, es, el', b0', b1', c2, c3, c4, zc, zd, y0, nx_eq, ck_true, br_true, br_false, bd_eq, de_eq, mN_sI_, mK_sI_, mL_sI_, mI_sI_ap, mJ_sI_, mR_sI_, mN_sJ_, mK_sJ_, mL_sJ_, mI_sJ_, mJ_sJ_ap, mR_sJ_, mN_sR_, mK_sR_, mL_sR_, mI_sR_, mJ_sR_, mR_sR_ap, Nat.reduceEqDiff, Nat.reduceAdd, ↓reduceIte, and_true, true_and, and_false, false_and, or_true, true_or, or_false, false_or, not_true_eq_false, not_false_eq_true, i10, i01, ii01, ii02, ii03, ii04, ii05, ii12, ii13, ii14, ii15, ii20, ii21, ii23, ii24, ii25, ii30, ii31, ii32, ii34, ii35, ii40, ii41, ii42, ii43, ii45, ii50, ii51, ii52, ii53, ii54, bi_z, Option.some.injEq, reduceCtorEq, Nat.reduceLeDiff]
  · rw [bi_f (fun z => q z.1)]
    simp only [f_X11_spells, f_X11_spells_b28, f_X11_spells_b65, f_X11_spells_b66, f_X11_spells_b97, f_X11_spells_b99, f_X11_spells_b128, f_X11_spells_b130, f_X11_spells_b159, f_X11_spells_b161, zz, es, el, b0', b1', c2, c3, c4, zc, zd, q, nx_eq, ck_true, br_true, br_false, bd_eq, de_eq, mN_sI_, mK_sI_, mL_sI_, mI_sI_ap, mJ_sI_, mR_sI_, mN_sJ_, mK_sJ_, mL_sJ_, mI_sJ_, mJ_sJ_ap, mR_sJ_, mN_sR_, mK_sR_, mL_sR_, mI_sR_, mJ_sR_, mR_sR_ap, Nat.reduceEqDiff, Nat.reduceAdd, ↓reduceIte, and_true, true_and, and_false, false_and, or_true, true_or, or_false, false_or, not_true_eq_false, not_false_eq_true, i10, i01, ii01, ii02, ii03, ii04, ii05, ii12, ii13, ii14, ii15, ii20, ii21, ii23, ii24, ii25, ii30, ii31, ii32, ii34, ii35, ii40, ii41, ii42, ii43, ii45, ii50, ii51, ii52, ii53, ii54, bi_z, Option.some.injEq, reduceCtorEq, Nat.reduceLeDiff]
theorem e_sp5 (F : Nat) {m : Mem} {B : Nat → Nat} {n p e : Nat} {g : Nat → Int32} (h : MB m B n) (hp : p < e) (he : e ≤ n) {a b c d f : Nat} (ha : 0 < a ∧ a < 128) (hb : 0 < b ∧ b < 128) (hc : 0 < c ∧ c < 128) (hd : 0 < d ∧ d < 128) (hf : 0 < f ∧ f < 128) : f_X11_spells F (wI m 50 g) 50 (nI p) (nI e) (nI a) (nI b) (nI c) (nI d) (nI f) = some (bi (e - p = 5 ∧ B (p + 0) = a ∧ B (p + 1) = b ∧ B (p + 2) = c ∧ B (p + 3) = d ∧ B (p + 4) = f), wI m 50 g) := by
  obtain ⟨hM, hn, hb⟩ := h
  have zc : ¬ nI c ≤ 0 := nI_nle hc.1 (by omega)
  have zd : ¬ nI d ≤ 0 := nI_nle hd.1 (by omega)
  have zf : ¬ nI f ≤ 0 := nI_nle hf.1 (by omega)
  have zz : (0 : Int32) ≤ 0 := by decide
  have es : nI e - nI p = nI (e - p) := pk_sub (by omega)
  have el : (nI (e - p) = (5 : Int32)) = (e - p = 5) := nI_eqk 5 (by omega) (by decide)
  have b0' : bz (0 : Int32) := Or.inl rfl
  have b1' : bz (1 : Int32) := Or.inr rfl
  have c2 : ((5 : Int32) ≤ 2) = False := eq_false (by decide)
  have c3 : ((5 : Int32) ≤ 3) = False := eq_false (by decide)
  have c4 : ((5 : Int32) ≤ 4) = False := eq_false (by decide)
  by_cases q : e - p = 5
  · have el' : (nI (e - p) = (5 : Int32)) = True := by rw [el]; exact eq_true q
    have v0 := vp_nI (show p < 800 by omega) (show 800 < 2147483648 by decide)
    have n0 := nI_cl (show p < 2147483648 by omega)
    have d0 := (hb p (by omega)).2
    have x0 : (nI (B p) = nI a) = (B (p + 0) = a) := nI_eqk _ (by have := (hb p (by omega)).1; omega) (by omega)
    have v1 := vp_nI (show p + 1 < 800 by omega) (show 800 < 2147483648 by decide)
    have n1 := nI_cl (show p + 1 < 2147483648 by omega)
    have d1 := (hb (p + 1) (by omega)).2
    have a1 : nI p + (1 : Int32) = nI (p + 1) := nI_add p 1
    have x1 : (nI (B (p + 1)) = nI b) = (B (p + 1) = b) := nI_eqk _ (by have := (hb (p + 1) (by omega)).1; omega) (by omega)
    have v2 := vp_nI (show p + 2 < 800 by omega) (show 800 < 2147483648 by decide)
    have n2 := nI_cl (show p + 2 < 2147483648 by omega)
    have d2 := (hb (p + 2) (by omega)).2
    have a2 : nI p + (2 : Int32) = nI (p + 2) := nI_add p 2
    have x2 : (nI (B (p + 2)) = nI c) = (B (p + 2) = c) := nI_eqk _ (by have := (hb (p + 2) (by omega)).1; omega) (by omega)
    have v3 := vp_nI (show p + 3 < 800 by omega) (show 800 < 2147483648 by decide)
    have n3 := nI_cl (show p + 3 < 2147483648 by omega)
    have d3 := (hb (p + 3) (by omega)).2
    have a3 : nI p + (3 : Int32) = nI (p + 3) := nI_add p 3
    have x3 : (nI (B (p + 3)) = nI d) = (B (p + 3) = d) := nI_eqk _ (by have := (hb (p + 3) (by omega)).1; omega) (by omega)
    have v4 := vp_nI (show p + 4 < 800 by omega) (show 800 < 2147483648 by decide)
    have n4 := nI_cl (show p + 4 < 2147483648 by omega)
    have d4 := (hb (p + 4) (by omega)).2
    have a4 : nI p + (4 : Int32) = nI (p + 4) := nI_add p 4
    have x4 : (nI (B (p + 4)) = nI f) = (B (p + 4) = f) := nI_eqk _ (by have := (hb (p + 4) (by omega)).1; omega) (by omega)
    by_cases y0 : B (p + 0) = a
    · by_cases y1 : B (p + 1) = b
      · by_cases y2 : B (p + 2) = c
        · by_cases y3 : B (p + 3) = d
          · by_cases y4 : B (p + 4) = f
            · rw [bi_t ⟨q, y0, y1, y2, y3, y4⟩]
              simp only [f_X11_spells, f_X11_spells_b28, f_X11_spells_b65, f_X11_spells_b66, f_X11_spells_b97, f_X11_spells_b99, f_X11_spells_b128, f_X11_spells_b130, f_X11_spells_b159, f_X11_spells_b161, mK_wI_, mL_wI_, mR_wI_, hM, b51, v0, n0, d0, x0, v1, n1, d1, a1, x1, v2, n2, d2, a2, x2, v3, n3, d3, a3, x3, v4, n4, d4, a4, x4, zz, es, el', b0', b1', c2, c3, c4, zc, zd, zf, y0, y1, y2, y3, y4, nx_eq, ck_true, br_true, br_false, bd_eq, de_eq, mN_sI_, mK_sI_, mL_sI_, mI_sI_ap, mJ_sI_, mR_sI_, mN_sJ_, mK_sJ_, mL_sJ_, mI_sJ_, mJ_sJ_ap, mR_sJ_, mN_sR_, mK_sR_, mL_sR_, mI_sR_, mJ_sR_, mR_sR_ap, Nat.reduceEqDiff, Nat.reduceAdd, ↓reduceIte, and_true, true_and, and_false, false_and, or_true, true_or, or_false, false_or, not_true_eq_false, not_false_eq_true, i10, i01, ii01, ii02, ii03, ii04, ii05, ii12, ii13, ii14, ii15, ii20, ii21, ii23, ii24, ii25, ii30, ii31, ii32, ii34, ii35, ii40, ii41, ii42, ii43, ii45, ii50, ii51, ii52, ii53, ii54, bi_z, Option.some.injEq, reduceCtorEq, Nat.reduceLeDiff]
            · rw [bi_f (fun z => y4 z.2.2.2.2.2)]
              simp only [f_X11_spells, f_X11_spells_b28, f_X11_spells_b65, f_X11_spells_b66, f_X11_spells_b97, f_X11_spells_b99, f_X11_spells_b128, f_X11_spells_b130, f_X11_spells_b159, f_X11_spells_b161, mK_wI_, mL_wI_, mR_wI_, hM, b51, v0, n0, d0, x0, v1, n1, d1, a1, x1, v2, n2, d2, a2, x2, v3, n3, d3, a3, x3, v4, n4, d4, a4, x4, zz, es, el', b0', b1', c2, c3, c4, zc, zd, zf, y0, y1, y2, y3, y4, nx_eq, ck_true, br_true, br_false, bd_eq, de_eq, mN_sI_, mK_sI_, mL_sI_, mI_sI_ap, mJ_sI_, mR_sI_, mN_sJ_, mK_sJ_, mL_sJ_, mI_sJ_, mJ_sJ_ap, mR_sJ_, mN_sR_, mK_sR_, mL_sR_, mI_sR_, mJ_sR_, mR_sR_ap, Nat.reduceEqDiff, Nat.reduceAdd, ↓reduceIte, and_true, true_and, and_false, false_and, or_true, true_or, or_false, false_or, not_true_eq_false, not_false_eq_true, i10, i01, ii01, ii02, ii03, ii04, ii05, ii12, ii13, ii14, ii15, ii20, ii21, ii23, ii24, ii25, ii30, ii31, ii32, ii34, ii35, ii40, ii41, ii42, ii43, ii45, ii50, ii51, ii52, ii53, ii54, bi_z, Option.some.injEq, reduceCtorEq, Nat.reduceLeDiff]
          · rw [bi_f (fun z => y3 z.2.2.2.2.1)]
            simp only [f_X11_spells, f_X11_spells_b28, f_X11_spells_b65, f_X11_spells_b66, f_X11_spells_b97, f_X11_spells_b99, f_X11_spells_b128, f_X11_spells_b130, f_X11_spells_b159, f_X11_spells_b161, mK_wI_, mL_wI_, mR_wI_, hM, b51, v0, n0, d0, x0, v1, n1, d1, a1, x1, v2, n2, d2, a2, x2, v3, n3, d3, a3, x3, v4, n4, d4, a4, x4, zz, es, el', b0', b1', c2, c3, c4, zc, zd, zf, y0, y1, y2, y3, nx_eq, ck_true, br_true, br_false, bd_eq, de_eq, mN_sI_, mK_sI_, mL_sI_, mI_sI_ap, mJ_sI_, mR_sI_, mN_sJ_, mK_sJ_, mL_sJ_, mI_sJ_, mJ_sJ_ap, mR_sJ_, mN_sR_, mK_sR_, mL_sR_, mI_sR_, mJ_sR_, mR_sR_ap, Nat.reduceEqDiff, Nat.reduceAdd, ↓reduceIte, and_true, true_and, and_false, false_and, or_true, true_or, or_false, false_or, not_true_eq_false, not_false_eq_true, i10, i01, ii01, ii02, ii03, ii04, ii05, ii12, ii13, ii14, ii15, ii20, ii21, ii23, ii24, ii25, ii30, ii31, ii32, ii34, ii35, ii40, ii41, ii42, ii43, ii45, ii50, ii51, ii52, ii53, ii54, bi_z, Option.some.injEq, reduceCtorEq, Nat.reduceLeDiff]
        · rw [bi_f (fun z => y2 z.2.2.2.1)]
          simp only [f_X11_spells, f_X11_spells_b28, f_X11_spells_b65, f_X11_spells_b66, f_X11_spells_b97, f_X11_spells_b99, f_X11_spells_b128, f_X11_spells_b130, f_X11_spells_b159, f_X11_spells_b161, mK_wI_, mL_wI_, mR_wI_, hM, b51, v0, n0, d0, x0, v1, n1, d1, a1, x1, v2, n2, d2, a2, x2, v3, n3, d3, a3, x3, v4, n4, d4, a4, x4, zz, es, el', b0', b1', c2, c3, c4, zc, zd, zf, y0, y1, y2, nx_eq, ck_true, br_true, br_false, bd_eq, de_eq, mN_sI_, mK_sI_, mL_sI_, mI_sI_ap, mJ_sI_, mR_sI_, mN_sJ_, mK_sJ_, mL_sJ_, mI_sJ_, mJ_sJ_ap, mR_sJ_, mN_sR_, mK_sR_, mL_sR_, mI_sR_, mJ_sR_, mR_sR_ap, Nat.reduceEqDiff, Nat.reduceAdd, ↓reduceIte, and_true, true_and, and_false, false_and, or_true, true_or, or_false, false_or, not_true_eq_false, not_false_eq_true, i10, i01, ii01, ii02, ii03, ii04, ii05, ii12, ii13, ii14, ii15, ii20, ii21, ii23, ii24, ii25, ii30, ii31, ii32, ii34, ii35, ii40, ii41, ii42, ii43, ii45, ii50, ii51, ii52, ii53, ii54, bi_z, Option.some.injEq, reduceCtorEq, Nat.reduceLeDiff]
      · rw [bi_f (fun z => y1 z.2.2.1)]
        simp only [f_X11_spells, f_X11_spells_b28, f_X11_spells_b65, f_X11_spells_b66, f_X11_spells_b97, f_X11_spells_b99, f_X11_spells_b128, f_X11_spells_b130, f_X11_spells_b159, f_X11_spells_b161, mK_wI_, mL_wI_, mR_wI_, hM, b51, v0, n0, d0, x0, v1, n1, d1, a1, x1, v2, n2, d2, a2, x2, v3, n3, d3, a3, x3, v4, n4, d4, a4, x4, zz, es, el', b0', b1', c2, c3, c4, zc, zd, zf, y0, y1, nx_eq, ck_true, br_true, br_false, bd_eq, de_eq, mN_sI_, mK_sI_, mL_sI_, mI_sI_ap, mJ_sI_, mR_sI_, mN_sJ_, mK_sJ_, mL_sJ_, mI_sJ_, mJ_sJ_ap, mR_sJ_, mN_sR_, mK_sR_, mL_sR_, mI_sR_, mJ_sR_, mR_sR_ap, Nat.reduceEqDiff, Nat.reduceAdd, ↓reduceIte, and_true, true_and, and_false, false_and, or_true, true_or, or_false, false_or, not_true_eq_false, not_false_eq_true, i10, i01, ii01, ii02, ii03, ii04, ii05, ii12, ii13, ii14, ii15, ii20, ii21, ii23, ii24, ii25, ii30, ii31, ii32, ii34, ii35, ii40, ii41, ii42, ii43, ii45, ii50, ii51, ii52, ii53, ii54, bi_z, Option.some.injEq, reduceCtorEq, Nat.reduceLeDiff]
    · rw [bi_f (fun z => y0 z.2.1)]
      simp only [f_X11_spells, f_X11_spells_b28, f_X11_spells_b65, f_X11_spells_b66, f_X11_spells_b97, f_X11_spells_b99, f_X11_spells_b128, f_X11_spells_b130, f_X11_spells_b159, f_X11_spells_b161, mK_wI_, mL_wI_, mR_wI_, hM, b51, v0, n0, d0, x0, v1, n1, d1, a1, x1, v2, n2, d2, a2, x2, v3, n3, d3, a3, x3, v4, n4, d4, a4, x4, zz, es, el', b0', b1', c2, c3, c4, zc, zd, zf, y0, nx_eq, ck_true, br_true, br_false, bd_eq, de_eq, mN_sI_, mK_sI_, mL_sI_, mI_sI_ap, mJ_sI_, mR_sI_, mN_sJ_, mK_sJ_, mL_sJ_, mI_sJ_, mJ_sJ_ap, mR_sJ_, mN_sR_, mK_sR_, mL_sR_, mI_sR_, mJ_sR_, mR_sR_ap, Nat.reduceEqDiff, Nat.reduceAdd, ↓reduceIte, and_true, true_and, and_false, false_and, or_true, true_or, or_false, false_or, not_true_eq_false, not_false_eq_true, i10, i01, ii01, ii02, ii03, ii04, ii05, ii12, ii13, ii14, ii15, ii20, ii21, ii23, ii24, ii25, ii30, ii31, ii32, ii34, ii35, ii40, ii41, ii42, ii43, ii45, ii50, ii51, ii52, ii53, ii54, bi_z, Option.some.injEq, reduceCtorEq, Nat.reduceLeDiff]
  · rw [bi_f (fun z => q z.1)]
    simp only [f_X11_spells, f_X11_spells_b28, f_X11_spells_b65, f_X11_spells_b66, f_X11_spells_b97, f_X11_spells_b99, f_X11_spells_b128, f_X11_spells_b130, f_X11_spells_b159, f_X11_spells_b161, zz, es, el, b0', b1', c2, c3, c4, zc, zd, zf, q, nx_eq, ck_true, br_true, br_false, bd_eq, de_eq, mN_sI_, mK_sI_, mL_sI_, mI_sI_ap, mJ_sI_, mR_sI_, mN_sJ_, mK_sJ_, mL_sJ_, mI_sJ_, mJ_sJ_ap, mR_sJ_, mN_sR_, mK_sR_, mL_sR_, mI_sR_, mJ_sR_, mR_sR_ap, Nat.reduceEqDiff, Nat.reduceAdd, ↓reduceIte, and_true, true_and, and_false, false_and, or_true, true_or, or_false, false_or, not_true_eq_false, not_false_eq_true, i10, i01, ii01, ii02, ii03, ii04, ii05, ii12, ii13, ii14, ii15, ii20, ii21, ii23, ii24, ii25, ii30, ii31, ii32, ii34, ii35, ii40, ii41, ii42, ii43, ii45, ii50, ii51, ii52, ii53, ii54, bi_z, Option.some.injEq, reduceCtorEq, Nat.reduceLeDiff]
