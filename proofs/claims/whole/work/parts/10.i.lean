/-! conditions are read: states and outcomes -/
def GC (B : Nat → Nat) (n z D : Nat) (c : Mem) (i sc : Nat) : Prop := CT B n z c i ∧ mI c 8 8 = nI sc ∧ mI c 8 9 = nI (D + 1) ∧ mI c 12 D = nI sc ∧ mI c 3 2 = 0
def GM (B : Nat → Nat) (n X : Nat) (m : Mem) (i im wt : Nat) : Prop := RT B n m i ∧ mI m 50 41 = 0 ∧ mI m 50 49 = nI wt ∧ mI m 81 X = nI im
def FC (D : Nat) (c c' : Mem) (sc : Nat) : Prop := frB c c' ∧ (∀ k, k < sc → mI c' 15 k = mI c 15 k ∧ mI c' 16 k = mI c 16 k) ∧ (∀ x, (9 ≤ x ∧ x ≤ 11) ∨ (13 ≤ x ∧ x ≤ 14) → mI c' x = mI c x) ∧ (∀ l, l ≠ D → mI c' 12 l = mI c 12 l) ∧ mI c' 8 9 = mI c 8 9
theorem FC.rf (D : Nat) (c : Mem) (sc : Nat) : FC D c c sc := ⟨frB.rf c, fun _ _ => ⟨rfl, rfl⟩, fun _ _ => rfl, fun _ _ => rfl, rfl⟩
theorem FC.tr {D : Nat} {a b c : Mem} {s t : Nat} (h : FC D a b s) (g : FC D b c t) (hst : s ≤ t) : FC D a c s := ⟨h.1.tr g.1, fun k hk => ⟨((g.2.1 k (by omega)).1).trans (h.2.1 k hk).1, ((g.2.1 k (by omega)).2).trans (h.2.1 k hk).2⟩, fun x hx => (g.2.2.1 x hx).trans (h.2.2.1 x hx), fun l hl => (g.2.2.2.1 l hl).trans (h.2.2.2.1 l hl), g.2.2.2.2.trans h.2.2.2.2⟩
theorem FC.nx (D : Nat) (c : Mem) (sc : Nat) (v : Int32) : FC D c (sI c 4 4 v) sc := ⟨frB.sI (by omega), fun k _ => ⟨by rw [mI_sI_o (by decide)], by rw [mI_sI_o (by decide)]⟩, fun x hx => mI_sI_o (by omega), fun l _ => by rw [mI_sI_o (by decide)], by rw [mI_sI_o (by decide)]⟩
theorem FC.ad (D : Nat) (c : Mem) (sc : Nat) (v w : Int32) : FC D c (adS c D sc v w) sc := by
  obtain ⟨⟨a1, a2⟩, a3, a4⟩ := adS_15 c D sc v w
  obtain ⟨b1, b2, b3, b4, b5, b6, b7⟩ := adS_8 c D sc v w
  exact ⟨adS_B c D sc v w, fun k hk => ⟨a2 k (by omega), a4 k (by omega)⟩, b7, b4, b2⟩
theorem GC.nx {B : Nat → Nat} {n z D i sc : Nat} {c : Mem} (F : Nat) (hz : z ≤ 801) (h : GC B n z D c i sc) (hi : i + 1 < z) : GC B n z D (sI c 4 4 (nI (i + 1))) (i + 1) sc := by
  obtain ⟨h1, h2, h3, h4, h5⟩ := h
  exact ⟨(e_passT F hz h1 hi).2, by rw [mI_sI_o (by decide)]; exact h2, by rw [mI_sI_o (by decide)]; exact h3, by rw [mI_sI_o (by decide)]; exact h4, by rw [mI_sI_o (by decide)]; exact h5⟩
theorem GC.ad {B : Nat → Nat} {n z D i sc : Nat} {c : Mem} (h : GC B n z D c i sc) (v w : Int32) : GC B n z D (adS c D sc v w) i (sc + 1) := by
  obtain ⟨h1, h2, h3, h4, h5⟩ := h
  obtain ⟨b1, b2, b3, b4, b5, b6, b7⟩ := adS_8 c D sc v w
  exact ⟨h1.cg (adS_B c D sc v w) b5, b1, b2.trans h3, b3, by rw [b6]; exact h5⟩
/-- both refuse, for the same reason, at the same token -/
def BADS (B : Nat → Nat) (n z X : Nat) (c m c' m' : Mem) : Prop := frB c c' ∧ frW X m m' ∧ ∃ j k, CT B n z c' j ∧ 1 ≤ k ∧ k ≤ 3 ∧ mI c' 3 2 = nI k ∧ mI m' 50 41 = nI k ∧ mI m' 50 42 = nI (tP B n j)
/-- the class stands at a strange token, which the reference has refused -/
def STRS (B : Nat → Nat) (n z D X q : Nat) (c m c' m' : Mem) (sc : Nat) : Prop := FC D c c' sc ∧ frX X m m' ∧ ∃ j sc', sc ≤ sc' ∧ GC B n z D c' j sc' ∧ tK B n j = 21 ∧ 2 * (sc' + q) ≤ tP B n j ∧ mI m' 50 41 = 1 ∧ mI m' 50 42 = nI (tP B n j)
/-- both have read on, up to token j -/
def OKS (B : Nat → Nat) (n z D X u0 q bl lev h : Nat) (c m c' m' : Mem) (i sc j : Nat) : Prop := FC D c c' sc ∧ frX X m m' ∧ (∀ k, k < bl → mI m' 84 k = mI m 84 k) ∧ i < j ∧ ∃ sc' im' pn, sc ≤ sc' ∧ GC B n z D c' j sc' ∧ GM B n X m' j im' (bl + pn) ∧ sc' = u0 + im' + pn ∧ SR c' m' u0 X im' bl pn lev ∧ pileH (mI c' 15) u0 (sc' - u0) = some (h + 1) ∧ bl + pn ≤ j ∧ 2 * (sc' + q) ≤ tP B n j
theorem e_subj (F : Nat) (c : Mem) {k : Nat} (hk : k ≤ 22) : f_X6_subjectOf F c (some (1000000 + k)) = some (if 8 ≤ k ∧ k ≤ 11 then nI (k - 8) else -1, c) := by
  have j0 := tok_con hk
  have j1 := tok_con (show (8 : Nat) ≤ 22 by decide)
  have j2 := tok_con (show (9 : Nat) ≤ 22 by decide)
  have j3 := tok_con (show (10 : Nat) ≤ 22 by decide)
  have j4 := tok_con (show (11 : Nat) ≤ 22 by decide)
  have t1 := tok_eq k 8
  have t2 := tok_eq k 9
  have t3 := tok_eq k 10
  have t4 := tok_eq k 11
  simp only [Nat.reduceAdd] at j1 j2 j3 j4 t1 t2 t3 t4
  by_cases a1 : k = 8
  · subst a1
    simp only [f_X6_subjectOf, j0, j1, Nat.reduceAdd, nx_eq, ck_true, br_true, br_false, bd_eq, de_eq, mN_sI_, mK_sI_, mL_sI_, mI_sI_ap, mJ_sI_, mR_sI_, mN_sJ_, mK_sJ_, mL_sJ_, mI_sJ_, mJ_sJ_ap, mR_sJ_, mN_sR_, mK_sR_, mL_sR_, mI_sR_, mJ_sR_, mR_sR_ap, Nat.reduceEqDiff, Nat.reduceAdd, ↓reduceIte, and_true, true_and, and_false, false_and, or_true, true_or, or_false, false_or, not_true_eq_false, not_false_eq_true, i10, i01, ii01, ii02, ii03, ii04, ii05, ii12, ii13, ii14, ii15, ii20, ii21, ii23, ii24, ii25, ii30, ii31, ii32, ii34, ii35, ii40, ii41, ii42, ii43, ii45, ii50, ii51, ii52, ii53, ii54, bi_z, Option.some.injEq, reduceCtorEq, Nat.reduceLeDiff]
    rfl
  · by_cases a2 : k = 9
    · subst a2
      simp only [f_X6_subjectOf, j0, j1, j2, Nat.reduceAdd, nx_eq, ck_true, br_true, br_false, bd_eq, de_eq, mN_sI_, mK_sI_, mL_sI_, mI_sI_ap, mJ_sI_, mR_sI_, mN_sJ_, mK_sJ_, mL_sJ_, mI_sJ_, mJ_sJ_ap, mR_sJ_, mN_sR_, mK_sR_, mL_sR_, mI_sR_, mJ_sR_, mR_sR_ap, Nat.reduceEqDiff, Nat.reduceAdd, ↓reduceIte, and_true, true_and, and_false, false_and, or_true, true_or, or_false, false_or, not_true_eq_false, not_false_eq_true, i10, i01, ii01, ii02, ii03, ii04, ii05, ii12, ii13, ii14, ii15, ii20, ii21, ii23, ii24, ii25, ii30, ii31, ii32, ii34, ii35, ii40, ii41, ii42, ii43, ii45, ii50, ii51, ii52, ii53, ii54, bi_z, Option.some.injEq, reduceCtorEq, Nat.reduceLeDiff]
      rfl
    · by_cases a3 : k = 10
      · subst a3
        simp only [f_X6_subjectOf, j0, j1, j2, j3, Nat.reduceAdd, nx_eq, ck_true, br_true, br_false, bd_eq, de_eq, mN_sI_, mK_sI_, mL_sI_, mI_sI_ap, mJ_sI_, mR_sI_, mN_sJ_, mK_sJ_, mL_sJ_, mI_sJ_, mJ_sJ_ap, mR_sJ_, mN_sR_, mK_sR_, mL_sR_, mI_sR_, mJ_sR_, mR_sR_ap, Nat.reduceEqDiff, Nat.reduceAdd, ↓reduceIte, and_true, true_and, and_false, false_and, or_true, true_or, or_false, false_or, not_true_eq_false, not_false_eq_true, i10, i01, ii01, ii02, ii03, ii04, ii05, ii12, ii13, ii14, ii15, ii20, ii21, ii23, ii24, ii25, ii30, ii31, ii32, ii34, ii35, ii40, ii41, ii42, ii43, ii45, ii50, ii51, ii52, ii53, ii54, bi_z, Option.some.injEq, reduceCtorEq, Nat.reduceLeDiff]
        rfl
      · by_cases a4 : k = 11
        · subst a4
          simp only [f_X6_subjectOf, j0, j1, j2, j3, j4, Nat.reduceAdd, nx_eq, ck_true, br_true, br_false, bd_eq, de_eq, mN_sI_, mK_sI_, mL_sI_, mI_sI_ap, mJ_sI_, mR_sI_, mN_sJ_, mK_sJ_, mL_sJ_, mI_sJ_, mJ_sJ_ap, mR_sJ_, mN_sR_, mK_sR_, mL_sR_, mI_sR_, mJ_sR_, mR_sR_ap, Nat.reduceEqDiff, Nat.reduceAdd, ↓reduceIte, and_true, true_and, and_false, false_and, or_true, true_or, or_false, false_or, not_true_eq_false, not_false_eq_true, i10, i01, ii01, ii02, ii03, ii04, ii05, ii12, ii13, ii14, ii15, ii20, ii21, ii23, ii24, ii25, ii30, ii31, ii32, ii34, ii35, ii40, ii41, ii42, ii43, ii45, ii50, ii51, ii52, ii53, ii54, bi_z, Option.some.injEq, reduceCtorEq, Nat.reduceLeDiff]
          rfl
        · rw [if_neg (by omega)]
          have c1 : (some (1000000 + k) = (some 1000008 : Option Nat)) = False := by rw [t1]; exact eq_false a1
          have c2 : (some (1000000 + k) = (some 1000009 : Option Nat)) = False := by rw [t2]; exact eq_false a2
          have c3 : (some (1000000 + k) = (some 1000010 : Option Nat)) = False := by rw [t3]; exact eq_false a3
          have c4 : (some (1000000 + k) = (some 1000011 : Option Nat)) = False := by rw [t4]; exact eq_false a4
          simp only [f_X6_subjectOf, j0, j1, j2, j3, j4, c1, c2, c3, c4, nx_eq, ck_true, br_true, br_false, and_self]
theorem e_rela (F : Nat) (c : Mem) {k : Nat} (hk : k ≤ 22) : f_X6_relationOf F c (some (1000000 + k)) = some (if 17 ≤ k ∧ k ≤ 19 then nI (k - 17) else -1, c) := by
  have j0 := tok_con hk
  have j1 := tok_con (show (17 : Nat) ≤ 22 by decide)
  have j2 := tok_con (show (18 : Nat) ≤ 22 by decide)
  have j3 := tok_con (show (19 : Nat) ≤ 22 by decide)
  have t1 := tok_eq k 17
  have t2 := tok_eq k 18
  have t3 := tok_eq k 19
  simp only [Nat.reduceAdd] at j1 j2 j3 t1 t2 t3
  by_cases a1 : k = 17
  · subst a1
    simp only [f_X6_relationOf, j0, j1, Nat.reduceAdd, nx_eq, ck_true, br_true, br_false, bd_eq, de_eq, mN_sI_, mK_sI_, mL_sI_, mI_sI_ap, mJ_sI_, mR_sI_, mN_sJ_, mK_sJ_, mL_sJ_, mI_sJ_, mJ_sJ_ap, mR_sJ_, mN_sR_, mK_sR_, mL_sR_, mI_sR_, mJ_sR_, mR_sR_ap, Nat.reduceEqDiff, Nat.reduceAdd, ↓reduceIte, and_true, true_and, and_false, false_and, or_true, true_or, or_false, false_or, not_true_eq_false, not_false_eq_true, i10, i01, ii01, ii02, ii03, ii04, ii05, ii12, ii13, ii14, ii15, ii20, ii21, ii23, ii24, ii25, ii30, ii31, ii32, ii34, ii35, ii40, ii41, ii42, ii43, ii45, ii50, ii51, ii52, ii53, ii54, bi_z, Option.some.injEq, reduceCtorEq, Nat.reduceLeDiff]
    rfl
  · by_cases a2 : k = 18
    · subst a2
      simp only [f_X6_relationOf, j0, j1, j2, Nat.reduceAdd, nx_eq, ck_true, br_true, br_false, bd_eq, de_eq, mN_sI_, mK_sI_, mL_sI_, mI_sI_ap, mJ_sI_, mR_sI_, mN_sJ_, mK_sJ_, mL_sJ_, mI_sJ_, mJ_sJ_ap, mR_sJ_, mN_sR_, mK_sR_, mL_sR_, mI_sR_, mJ_sR_, mR_sR_ap, Nat.reduceEqDiff, Nat.reduceAdd, ↓reduceIte, and_true, true_and, and_false, false_and, or_true, true_or, or_false, false_or, not_true_eq_false, not_false_eq_true, i10, i01, ii01, ii02, ii03, ii04, ii05, ii12, ii13, ii14, ii15, ii20, ii21, ii23, ii24, ii25, ii30, ii31, ii32, ii34, ii35, ii40, ii41, ii42, ii43, ii45, ii50, ii51, ii52, ii53, ii54, bi_z, Option.some.injEq, reduceCtorEq, Nat.reduceLeDiff]
      rfl
    · by_cases a3 : k = 19
      · subst a3
        simp only [f_X6_relationOf, j0, j1, j2, j3, Nat.reduceAdd, nx_eq, ck_true, br_true, br_false, bd_eq, de_eq, mN_sI_, mK_sI_, mL_sI_, mI_sI_ap, mJ_sI_, mR_sI_, mN_sJ_, mK_sJ_, mL_sJ_, mI_sJ_, mJ_sJ_ap, mR_sJ_, mN_sR_, mK_sR_, mL_sR_, mI_sR_, mJ_sR_, mR_sR_ap, Nat.reduceEqDiff, Nat.reduceAdd, ↓reduceIte, and_true, true_and, and_false, false_and, or_true, true_or, or_false, false_or, not_true_eq_false, not_false_eq_true, i10, i01, ii01, ii02, ii03, ii04, ii05, ii12, ii13, ii14, ii15, ii20, ii21, ii23, ii24, ii25, ii30, ii31, ii32, ii34, ii35, ii40, ii41, ii42, ii43, ii45, ii50, ii51, ii52, ii53, ii54, bi_z, Option.some.injEq, reduceCtorEq, Nat.reduceLeDiff]
        rfl
      · rw [if_neg (by omega)]
        have c1 : (some (1000000 + k) = (some 1000017 : Option Nat)) = False := by rw [t1]; exact eq_false a1
        have c2 : (some (1000000 + k) = (some 1000018 : Option Nat)) = False := by rw [t2]; exact eq_false a2
        have c3 : (some (1000000 + k) = (some 1000019 : Option Nat)) = False := by rw [t3]; exact eq_false a3
        simp only [f_X6_relationOf, j0, j1, j2, j3, c1, c2, c3, nx_eq, ck_true, br_true, br_false, and_self]
/-- the reference's take, from token i to the next -/
theorem GM.take (F : Nat) (hF : 1000 ≤ F) {B : Nat → Nat} {n X i im wt : Nat} {m : Mem} (h : GM B n X m i im wt) : (¬ tK B n (i + 1) = 21 → ∃ m', f_X11_take F m 50 = some (1, m') ∧ GM B n X m' (i + 1) im wt ∧ frX X m m' ∧ (∀ x, x ≠ 50 → mI m' x = mI m x)) ∧ (tK B n (i + 1) = 21 → ∃ m', f_X11_take F m 50 = some (0, m') ∧ frX X m m' ∧ mI m' 50 41 = 1 ∧ mI m' 50 42 = nI (tP B n (i + 1))) := by
  obtain ⟨h1, h2, h3, h4⟩ := h
  obtain ⟨e1, e2⟩ := e_takeR F hF h1
  refine ⟨fun hk => ?_, fun hk => ?_⟩
  · obtain ⟨m', a1, a2, ⟨g, rfl⟩, a4⟩ := e1 hk
    refine ⟨_, a1, ⟨a2, by rw [a4 41 (by omega)]; exact h2, by rw [a4 49 (by omega)]; exact h3, by rw [mI_wI_o (by decide)]; exact h4⟩, frX.w50 (fun j hj => by have := a4 j (by omega); rw [b50] at this; exact this) (fun e => by have e1 := a4 41 (by omega); have e2 := a4 42 (by omega); rw [b50] at e1 e2; exact ⟨e1.symm.trans e, e2⟩), fun x hx => mI_wI_o hx⟩
  · obtain ⟨m', a1, ⟨g, rfl⟩, a3, a4⟩ := e2 hk
    obtain ⟨a5, a6⟩ := a4 h2
    exact ⟨_, a1, frX.w50 (fun j hj => by have := a3 j (by omega); rw [b50] at this; exact this) (fun e => by rw [b50] at a5; rw [a5] at e; exact absurd e (by decide)), a5, a6⟩
theorem nI_nz {k : Nat} (k1 : 1 ≤ k) (k3 : k ≤ 3) : ¬ nI k = (0 : Int32) := fun e => absurd ((nI_eq (b := 0) (by omega) (by decide)).mp e) (by omega)
theorem bad_wrong {B : Nat → Nat} {n z X i k im wt : Nat} {c0 m0 c m : Mem} (hT : CT B n z c i) (hM : GM B n X m i im wt) (fb : frB c0 c) (fx : frX X m0 m) (k1 : 1 ≤ k) (k3 : k ≤ 3) : BADS B n z X c0 m0 (sI c 3 2 (nI k)) (sI (sI m 50 41 (nI k)) 50 42 (mI m 50 47)) := by
  refine ⟨fb.tr (frB.sI (by omega)), fx.w.tr (frW.wr (nI_nz k1 k3)), i, k, hT.cg (frB.sI (by omega)) (by rw [mI_sI_o (by decide)]), k1, k3, mI_sI_e, by rw [mI_sI_j (by decide), mI_sI_e], ?_⟩
  rw [mI_sI_e]
  exact hM.1.2.2.1.1
theorem bad_dead {B : Nat → Nat} {n z X j : Nat} {c0 m0 c m' : Mem} (hT : CT B n z c j) (fb : frB c0 c) (fx : frX X m0 m') (h41 : mI m' 50 41 = 1) (h42 : mI m' 50 42 = nI (tP B n j)) : BADS B n z X c0 m0 (sI c 3 2 1) m' :=
  ⟨fb.tr (frB.sI (by omega)), fx.w, j, 1, hT.cg (frB.sI (by omega)) (by rw [mI_sI_o (by decide)]), by decide, by decide, mI_sI_e, h41, h42⟩
