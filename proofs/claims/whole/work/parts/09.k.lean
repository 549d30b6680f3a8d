/-! places and ties; the class's shares -/
theorem vB_rf (d : Mem) (f S last day a : Nat) : vB d f S last day a a = 0 := cmpN_eq rfl
theorem pl_iff {d : Mem} {f S last day n : Nat} {ln : Nat → Nat} (hs : SRT d f S last day n ln) (hy : ∀ i, i < n → 0 < zY d f (ks d f S last day (ln i))) (a : Nat) : ∀ j, a + j < n → (plN d f S last day ln a = plN d f S last day ln (a + j) ↔ vB d f S last day (ln a) (ln (a + j)) = 0) := by
  intro j
  induction j with
  | zero => intro _; exact ⟨fun _ => vB_rf _ _ _ _ _ _, fun _ => rfl⟩
  | succ j ih =>
    intro hj
    have hih := ih (by omega)
    have hs1 := hs (a + j) (a + j + 1) (by omega) (by omega)
    have hab : a = a + j ∨ fsA d f S last day (ln a) (ln (a + j)) := by
      by_cases e : j = 0
      · left; omega
      · right; exact hs a (a + j) (by omega) (by omega)
    have ep : plN d f S last day ln (a + (j + 1)) = if vB d f S last day (ln (a + j)) (ln (a + j + 1)) = 0 then plN d f S last day ln (a + j) else a + j + 2 := rfl
    show plN d f S last day ln a = plN d f S last day ln (a + (j + 1)) ↔ vB d f S last day (ln a) (ln (a + j + 1)) = 0
    rw [ep]
    by_cases e : vB d f S last day (ln (a + j)) (ln (a + j + 1)) = 0
    · rw [if_pos e, hih, vB_0, vB_0]
      obtain ⟨e1, e2⟩ := (vB_0 _ _ _ _ _ _ _).mp e
      constructor
      · intro z
        exact ⟨fsA_tr (hy _ (by omega)) z.1 e1, fsA_tr (hy _ (by omega)) e2 z.2⟩
      · intro z
        exact ⟨fsA_tr (hy _ (by omega)) z.1 e2, fsA_tr (hy _ (by omega)) e1 z.2⟩
    · rw [if_neg e]
      have hle := (plN_le d f S last day ln a).2
      constructor
      · intro z; omega
      · intro z
        obtain ⟨z1, z2⟩ := (vB_0 _ _ _ _ _ _ _).mp z
        refine absurd ((vB_0 _ _ _ _ _ _ _).mpr ⟨hs1, ?_⟩) e
        rcases hab with q | q
        · rw [← q]
          have q2 : a + j + 1 = a + 1 := by omega
          rw [← q]  at z2
          exact z2
        · exact fsA_tr (hy _ (by omega)) z2 q
theorem e_isTied (F : Nat) {c : Mem} {n i : Nat} {pp : Nat → Nat} (hR : shR c 40) (hn : n ≤ 24) (c6 : mI c 40 6 = nI n) (hp : ∀ j, j < n → mI c 43 j = nI (pp j) ∧ pp j ≤ 24) (hi : i < n) : f_X5_isTied F c 40 (nI i) (nI (i + 1)) = some (bi (i + 1 < n ∧ pp i = pp (i + 1)), c) := by
  obtain ⟨r1, r2, r3, r4, r5, r6, r7, r8, r9, r10, r11, r12, r13, r14, r15, r16, r17, r18, r19⟩ := hR
  simp only [Nat.reduceAdd] at r4 r10 r16
  have g1 : ¬ nI i < 0 := nI_pos (by omega)
  have g2 : ¬ nI n ≤ nI i := nI_ge hi (by omega)
  have g3 : ¬ nI (i + 1) < 0 := nI_pos (by omega)
  have vi := vp_nI (show i < 24 by omega) (show 24 < 2147483648 by decide)
  have ni := nI_cl (show i < 2147483648 by omega)
  obtain ⟨p1, p2⟩ := hp i hi
  by_cases e : i + 1 < n
  · have g4 : ¬ nI n ≤ nI (i + 1) := nI_ge e (by omega)
    have vj := vp_nI (show i + 1 < 24 by omega) (show 24 < 2147483648 by decide)
    have nj := nI_cl (show i + 1 < 2147483648 by omega)
    obtain ⟨p3, p4⟩ := hp (i + 1) e
    have ee : (nI (pp i) = nI (pp (i + 1))) = (pp i = pp (i + 1)) := nI_eqk _ (by omega) (by omega)
    by_cases e2 : pp i = pp (i + 1)
    · rw [bi_t ⟨e, e2⟩]
      simp only [f_X5_isTied, g1, g2, g3, g4, r1, r4, r10, r16, c6, vi, ni, vj, nj, p1, p3, ee, e2, nx_eq, ck_true, br_true, br_false, bd_eq, de_eq, mN_sI_, mK_sI_, mL_sI_, mI_sI_ap, mJ_sI_, mR_sI_, mN_sJ_, mK_sJ_, mL_sJ_, mI_sJ_, mJ_sJ_ap, mR_sJ_, mN_sR_, mK_sR_, mL_sR_, mI_sR_, mJ_sR_, mR_sR_ap, Nat.reduceEqDiff, Nat.reduceAdd, ↓reduceIte, and_true, true_and, and_false, false_and, or_true, true_or, or_false, false_or, not_true_eq_false, not_false_eq_true, i10, i01, ii01, ii02, ii03, ii04, ii05, ii12, ii13, ii14, ii15, ii20, ii21, ii23, ii24, ii25, ii30, ii31, ii32, ii34, ii35, ii40, ii41, ii42, ii43, ii45, ii50, ii51, ii52, ii53, ii54, bi_z, Option.some.injEq, reduceCtorEq, Nat.reduceLeDiff]
    · rw [bi_f (fun z => e2 z.2)]
      simp only [f_X5_isTied, g1, g2, g3, g4, r1, r4, r10, r16, c6, vi, ni, vj, nj, p1, p3, ee, e2, nx_eq, ck_true, br_true, br_false, bd_eq, de_eq, mN_sI_, mK_sI_, mL_sI_, mI_sI_ap, mJ_sI_, mR_sI_, mN_sJ_, mK_sJ_, mL_sJ_, mI_sJ_, mJ_sJ_ap, mR_sJ_, mN_sR_, mK_sR_, mL_sR_, mI_sR_, mJ_sR_, mR_sR_ap, Nat.reduceEqDiff, Nat.reduceAdd, ↓reduceIte, and_true, true_and, and_false, false_and, or_true, true_or, or_false, false_or, not_true_eq_false, not_false_eq_true, i10, i01, ii01, ii02, ii03, ii04, ii05, ii12, ii13, ii14, ii15, ii20, ii21, ii23, ii24, ii25, ii30, ii31, ii32, ii34, ii35, ii40, ii41, ii42, ii43, ii45, ii50, ii51, ii52, ii53, ii54, bi_z, Option.some.injEq, reduceCtorEq, Nat.reduceLeDiff]
  · have g4 : nI n ≤ nI (i + 1) := nI_le (by omega) (by omega)
    rw [bi_f (fun z => e z.1)]
    simp only [f_X5_isTied, g1, g2, g3, g4, r1, c6, nx_eq, ck_true, br_true, br_false, bd_eq, de_eq, mN_sI_, mK_sI_, mL_sI_, mI_sI_ap, mJ_sI_, mR_sI_, mN_sJ_, mK_sJ_, mL_sJ_, mI_sJ_, mJ_sJ_ap, mR_sJ_, mN_sR_, mK_sR_, mL_sR_, mI_sR_, mJ_sR_, mR_sR_ap, Nat.reduceEqDiff, Nat.reduceAdd, ↓reduceIte, and_true, true_and, and_false, false_and, or_true, true_or, or_false, false_or, not_true_eq_false, not_false_eq_true, i10, i01, ii01, ii02, ii03, ii04, ii05, ii12, ii13, ii14, ii15, ii20, ii21, ii23, ii24, ii25, ii30, ii31, ii32, ii34, ii35, ii40, ii41, ii42, ii43, ii45, ii50, ii51, ii52, ii53, ii54, bi_z, Option.some.injEq, reduceCtorEq, Nat.reduceLeDiff]
/-- the pays of a list -/
def PAYS (c m : Mem) (l X y : Nat) (py : Nat → Nat) : Prop := y ≤ 8 ∧ mI c 22 l = nI y ∧ (mI m 79 X = nI y ∨ (y = 0 ∧ mI m 79 X = -1)) ∧ (∀ j, j < y → mI c 23 (8 * l + j) = nI (py j) ∧ mI m 80 (8 * X + j) = nI (py j)) ∧ (∀ j, y ≤ j → py j = 0) ∧ ∀ j, py j ≤ 100
theorem Rbook.pays {c m : Mem} {nw nl l : Nat} (h : Rbook c m nw nl) (hl : l < nl) : ∃ y py, PAYS c m l (6 * nw + l) y py := by
  obtain ⟨-, -, -, -, -, -, b7⟩ := h
  obtain ⟨-, -, hp, -⟩ := b7 l hl
  rcases hp with ⟨h1, h2⟩ | ⟨y, y1, y2, h1, h2, h3⟩
  · exact ⟨0, fun _ => 0, by omega, h1, Or.inr ⟨rfl, h2⟩, fun j hj => absurd hj (by omega), fun _ _ => rfl, fun _ => Nat.zero_le _⟩
  · refine ⟨y, fun j => if j < y then cn (mI m 80 (8 * (6 * nw + l) + j)) else 0, y2, h1, Or.inl h2, fun j hj => ?_, fun j hj => if_neg (by omega), fun j => ?_⟩
    · obtain ⟨a, b⟩ := h3 j hj
      obtain ⟨b1, b2⟩ := rg_cn (by decide) b
      show mI c 23 (8 * l + j) = nI (if j < y then cn (mI m 80 (8 * (6 * nw + l) + j)) else 0) ∧ _ = nI (if j < y then cn (mI m 80 (8 * (6 * nw + l) + j)) else 0)
      rw [if_pos hj]
      exact ⟨a.trans b1, b1⟩
    · show (if j < y then cn (mI m 80 (8 * (6 * nw + l) + j)) else 0) ≤ 100
      by_cases hj : j < y
      · rw [if_pos hj]
        exact (rg_cn (by decide) (h3 j hj).2).2
      · rw [if_neg hj]; omega
theorem e_payAt (F : Nat) {c m : Mem} (hC : shC c) {nl l X y i : Nat} {py : Nat → Nat} (h9 : mI c 17 9 = nI nl) (hn : nl ≤ 6) (hl : l < nl) (hP : PAYS c m l X y py) (hi : i < 24) : f_X0_payAt F c 17 (nI l) (nI i) = some (nI (py i), c) := by
  obtain ⟨p1, p2, -, p4, p5, -⟩ := hP
  have vl1 := vp_nI (show l < 6 by omega) (show 6 < 2147483648 by decide)
  have nl1 := nI_cl (show l < 2147483648 by omega)
  have g1 : ¬ nI i < 0 := nI_pos (by omega)
  have i8' : nI l * (8 : Int32) + nI i = nI (8 * l + i) := by rw [show (8 : Int32) = nI 8 from rfl, pk_mul, nI_add, Nat.mul_comm]
  by_cases e : y ≤ i
  · have g2 : nI y ≤ nI i := nI_le e (by omega)
    rw [p5 i e]
    simp only [f_X0_payAt, e_X0_hasList, hC, h9, bx_in hl (show nl < 2147483648 by omega), g1, vl1, nl1, p2, g2, nx_eq, ck_true, br_true, br_false, bd_eq, de_eq, mN_sI_, mK_sI_, mL_sI_, mI_sI_ap, mJ_sI_, mR_sI_, mN_sJ_, mK_sJ_, mL_sJ_, mI_sJ_, mJ_sJ_ap, mR_sJ_, mN_sR_, mK_sR_, mL_sR_, mI_sR_, mJ_sR_, mR_sR_ap, Nat.reduceEqDiff, Nat.reduceAdd, ↓reduceIte, and_true, true_and, and_false, false_and, or_true, true_or, or_false, false_or, not_true_eq_false, not_false_eq_true, i10, i01, ii01, ii02, ii03, ii04, ii05, ii12, ii13, ii14, ii15, ii20, ii21, ii23, ii24, ii25, ii30, ii31, ii32, ii34, ii35, ii40, ii41, ii42, ii43, ii45, ii50, ii51, ii52, ii53, ii54, bi_z, Option.some.injEq, reduceCtorEq, Nat.reduceLeDiff]
    rfl
  · have g2 : ¬ nI y ≤ nI i := nI_ge (by omega) (by omega)
    have v8 := vp_nI (show 8 * l + i < 48 by omega) (show 48 < 2147483648 by decide)
    have n8 := nI_cl (show 8 * l + i < 2147483648 by omega)
    simp only [f_X0_payAt, e_X0_hasList, hC, h9, bx_in hl (show nl < 2147483648 by omega), g1, vl1, nl1, p2, g2, i8', v8, n8, (p4 i (by omega)).1, nx_eq, ck_true, br_true, br_false, bd_eq, de_eq, mN_sI_, mK_sI_, mL_sI_, mI_sI_ap, mJ_sI_, mR_sI_, mN_sJ_, mK_sJ_, mL_sJ_, mI_sJ_, mJ_sJ_ap, mR_sJ_, mN_sR_, mK_sR_, mL_sR_, mI_sR_, mJ_sR_, mR_sR_ap, Nat.reduceEqDiff, Nat.reduceAdd, ↓reduceIte, and_true, true_and, and_false, false_and, or_true, true_or, or_false, false_or, not_true_eq_false, not_false_eq_true, i10, i01, ii01, ii02, ii03, ii04, ii05, ii12, ii13, ii14, ii15, ii20, ii21, ii23, ii24, ii25, ii30, ii31, ii32, ii34, ii35, ii40, ii41, ii42, ii43, ii45, ii50, ii51, ii52, ii53, ii54, bi_z, Option.some.injEq, reduceCtorEq, Nat.reduceLeDiff]
/-- what places are worth, together -/
def sh (T : Nat) (py : Nat → Nat) (k : Nat) : Nat := T * py k / 100
def ac (T : Nat) (py : Nat → Nat) (u : Nat) : Nat → Nat
  | 0 => 0
  | n + 1 => ac T py u n + sh T py (u + n)
theorem sh_le {T : Nat} {py : Nat → Nat} (hT : T ≤ 240000) (hp : ∀ j, py j ≤ 100) (k : Nat) : sh T py k ≤ 240000 := by
  have a := Nat.mul_le_mul hT (hp k)
  unfold sh
  omega
theorem ac_le {T : Nat} {py : Nat → Nat} (hT : T ≤ 240000) (hp : ∀ j, py j ≤ 100) (u : Nat) : ∀ n, ac T py u n ≤ 240000 * n := by
  intro n
  induction n with
  | zero => exact Nat.le_refl _
  | succ n ih =>
    have := sh_le hT hp (u + n)
    show ac T py u n + sh T py (u + n) ≤ 240000 * (n + 1)
    omega
def tie (n : Nat) (pp : Nat → Nat) (i : Nat) : Prop := i + 1 < n ∧ pp i = pp (i + 1)
theorem ex_grp (n : Nat) (pp : Nat → Nat) : ∀ j i, i + j + 1 = n → ∃ e, i < e ∧ e ≤ n ∧ (∀ t, i ≤ t → t + 1 < e → tie n pp t) ∧ ¬ tie n pp (e - 1) := by
  intro j
  induction j with
  | zero =>
    intro i hi
    refine ⟨i + 1, by omega, by omega, fun t h1 h2 => absurd h2 (by omega), fun h => ?_⟩
    have := h.1
    omega
  | succ j ih =>
    intro i hi
    by_cases e : tie n pp i
    · obtain ⟨e', h1, h2, h3, h4⟩ := ih (i + 1) (by omega)
      refine ⟨e', by omega, h2, fun t t1 t2 => ?_, h4⟩
      by_cases q : t = i
      · rw [q]; exact e
      · exact h3 t (by omega) t2
    · exact ⟨i + 1, by omega, by omega, fun t h1 h2 => absurd h2 (by omega), e⟩
theorem n100 : ¬ (100 : Int32) = 0 := by decide
/-- the class walks through a group of equal birds -/
theorem lp_grp (F : Nat) {c m : Mem} {y nl l X yy n T u e : Nat} {py pp : Nat → Nat} (hC : shC c) (h9 : mI c 17 9 = nI nl) (hnl : nl ≤ 6) (hl : l < nl) (hP : PAYS c m l X yy py) (hn : n ≤ 24) (c6 : mI c 40 6 = nI n) (hp : ∀ j, j < n → mI c 43 j = nI (pp j) ∧ pp j ≤ 24) (hky : mK c y = 4) (e1 : mI c y 1 = nI T) (hT : T ≤ 240000) (heu : u < e) (hen : e ≤ n) (ht : ∀ t, u ≤ t → t + 1 < e → tie n pp t) (hnt : ¬ tie n pp (e - 1)) :
    ∀ t k M, u + k + t + 1 = e → f_X3_share_b22 F y (t + 1 + M) c (some 40) (some 17) (nI l) (nI u) (nI (ac T py u k)) (nI (u + k)) = bd (f_X3_payEach F c y (some 40) (nI u) (nI e) (nI (ac T py u (e - u)))) (fun _ s => f_X3_share_b22 F y M s (some 40) (some 17) (nI l) (nI e) (0 : Int32) (nI e)) := by
  have hR := hC.rk (Or.inr rfl)
  have kz := hR.1
  have hpy := hP.2.2.2.2.2
  intro t
  induction t with
  | zero =>
    intro k M hk
    have hkn : u + k < n := by omega
    have q1 : ¬ nI n ≤ nI (u + k) := nI_ge hkn (by omega)
    have eP := e_payAt F hC h9 hnl hl hP (show u + k < 24 by omega)
    have eT := e_isTied F hR hn c6 hp hkn
    have hnt' : ¬ (u + k + 1 < n ∧ pp (u + k) = pp (u + k + 1)) := by
      have := hnt
      rw [show e - 1 = u + k by omega] at this
      exact this
    rw [bi_f hnt'] at eT
    have mT := Nat.mul_le_mul hT (hpy (u + k))
    have ea := ac_le hT hpy u k
    have esh : nI (T * py (u + k)) / (100 : Int32) = nI (sh T py (u + k)) := pk_div (d := 100) (by omega) (by decide) (by decide)
    have eac : nI (ac T py u k) + nI (sh T py (u + k)) = nI (ac T py u (e - u)) := by
      rw [nI_add]
      have : e - u = k + 1 := by omega
      rw [this]
      rfl
    have ee : nI (u + k + 1) = nI e := congrArg nI (by omega)
    rw [ee] at eT
    show f_X3_share_b22 F y (0 + 1 + M) c (some 40) (some 17) (nI l) (nI u) (nI (ac T py u k)) (nI (u + k)) = _
    rw [show 0 + 1 + M = M + 1 by omega]
    show f_X3_share_b22_it F (f_X3_share_b22 F y M) y c (some 40) (some 17) (nI l) (nI u) (nI (ac T py u k)) (nI (u + k)) = _
    simp only [f_X3_share_b22_it, f_X3_share_b86, f_X5_size, kz, c6, q1, hky, hC, eP, n100, e1, pk_mul, esh, eac, nI_1, eT, ee, nx_eq, ck_true, br_true, br_false, bd_eq, de_eq, mN_sI_, mK_sI_, mL_sI_, mI_sI_ap, mJ_sI_, mR_sI_, mN_sJ_, mK_sJ_, mL_sJ_, mI_sJ_, mJ_sJ_ap, mR_sJ_, mN_sR_, mK_sR_, mL_sR_, mI_sR_, mJ_sR_, mR_sR_ap, Nat.reduceEqDiff, Nat.reduceAdd, ↓reduceIte, and_true, true_and, and_false, false_and, or_true, true_or, or_false, false_or, not_true_eq_false, not_false_eq_true, i10, i01, ii01, ii02, ii03, ii04, ii05, ii12, ii13, ii14, ii15, ii20, ii21, ii23, ii24, ii25, ii30, ii31, ii32, ii34, ii35, ii40, ii41, ii42, ii43, ii45, ii50, ii51, ii52, ii53, ii54, bi_z, Option.some.injEq, reduceCtorEq, Nat.reduceLeDiff]
  | succ t ih =>
    intro k M hk
    have hkn : u + k < n := by omega
    have q1 : ¬ nI n ≤ nI (u + k) := nI_ge hkn (by omega)
    have eP := e_payAt F hC h9 hnl hl hP (show u + k < 24 by omega)
    have eT := e_isTied F hR hn c6 hp hkn
    rw [bi_t (show u + k + 1 < n ∧ pp (u + k) = pp (u + k + 1) from ht (u + k) (by omega) (by omega))] at eT
    have mT := Nat.mul_le_mul hT (hpy (u + k))
    have esh : nI (T * py (u + k)) / (100 : Int32) = nI (sh T py (u + k)) := pk_div (d := 100) (by omega) (by decide) (by decide)
    have eac : nI (ac T py u k) + nI (sh T py (u + k)) = nI (ac T py u (k + 1)) := by rw [nI_add]; rfl
    have hih := ih (k + 1) M (by omega)
    rw [← hih]
    rw [show t + 1 + 1 + M = (t + 1 + M) + 1 by omega]
    show f_X3_share_b22_it F (f_X3_share_b22 F y (t + 1 + M)) y c (some 40) (some 17) (nI l) (nI u) (nI (ac T py u k)) (nI (u + k)) = _
    simp only [f_X3_share_b22_it, f_X3_share_b86, f_X5_size, kz, c6, q1, hky, hC, eP, n100, e1, pk_mul, esh, eac, nI_1, eT, nx_eq, ck_true, br_true, br_false, bd_eq, de_eq, mN_sI_, mK_sI_, mL_sI_, mI_sI_ap, mJ_sI_, mR_sI_, mN_sJ_, mK_sJ_, mL_sJ_, mI_sJ_, mJ_sJ_ap, mR_sJ_, mN_sR_, mK_sR_, mL_sR_, mI_sR_, mJ_sR_, mR_sR_ap, Nat.reduceEqDiff, Nat.reduceAdd, ↓reduceIte, and_true, true_and, and_false, false_and, or_true, true_or, or_false, false_or, not_true_eq_false, not_false_eq_true, i10, i01, ii01, ii02, ii03, ii04, ii05, ii12, ii13, ii14, ii15, ii20, ii21, ii23, ii24, ii25, ii30, ii31, ii32, ii34, ii35, ii40, ii41, ii42, ii43, ii45, ii50, ii51, ii52, ii53, ii54, bi_z, Option.some.injEq, reduceCtorEq, Nat.reduceLeDiff]
    rfl
/-- each of a row of birds gets v -/
def payG (sb : Nat → Nat) (v : Nat) : Nat → Nat → (Nat → Nat) → (Nat → Nat)
  | 0, _, pz => pz
  | j + 1, k, pz => payG sb v j (k + 1) (va_up pz (sb k) v)
/-- only the object y and the array behind it have changed -/
def frH (y : Nat) (c c' : Mem) : Prop := mK c' = mK c ∧ mL c' = mL c ∧ mR c' = mR c ∧ mN c' = mN c ∧ mJ c' = mJ c ∧ ∀ x, x ≠ y → x ≠ y + 1 → mI c' x = mI c x
theorem frH.rf (y : Nat) (c : Mem) : frH y c c := ⟨rfl, rfl, rfl, rfl, rfl, fun _ _ _ => rfl⟩
theorem frH.tr {y : Nat} {a b c : Mem} (h : frH y a b) (g : frH y b c) : frH y a c := ⟨g.1.trans h.1, g.2.1.trans h.2.1, g.2.2.1.trans h.2.2.1, g.2.2.2.1.trans h.2.2.2.1, g.2.2.2.2.1.trans h.2.2.2.2.1, fun x h1 h2 => (g.2.2.2.2.2 x h1 h2).trans (h.2.2.2.2.2 x h1 h2)⟩
/-- what a payout holds -/
def PO (y : Nat) (c : Mem) (pz : Nat → Nat) (pd : Nat) : Prop := mK c y = 4 ∧ mR c y 0 = some (y + 1) ∧ mK c (y + 1) = 22 ∧ mL c (y + 1) = 24 ∧ (∀ b, b < 24 → mI c (y + 1) b = nI (pz b)) ∧ mI c y 2 = nI pd
theorem lp_pay (F : Nat) {n e y v : Nat} {sb : Nat → Nat} (hy : y = 47 ∨ 97 ≤ y) (hn : n ≤ 24) (hen : e ≤ n) (hsb : ∀ i, i < n → sb i < 24) :
    ∀ j k M c pz pd, k + j = e → j < M → shR c 40 → mI c 40 6 = nI n → (∀ i, i < n → mI c 41 i = nI (sb i)) → PO y c pz pd → ∃ c', f_X3_payEach_b21 F y M c (some 40) (nI e) (nI v) (nI k) = some ((), c') ∧ frH y c c' ∧ (∀ x, x ≠ 2 → mI c' y x = mI c y x) ∧ PO y c' (payG sb v j k pz) (pd + j * v) := by
  intro j
  induction j with
  | zero =>
    intro k M c pz pd hk hM hR c6 h41 hPO
    obtain ⟨M, rfl⟩ : ∃ x, M = x + 1 := ⟨M - 1, by omega⟩
    obtain rfl : k = e := by omega
    have q1 : nI k ≤ nI k := nI_le (Nat.le_refl _) (by omega)
    refine ⟨c, ?_, frH.rf y c, fun _ _ => rfl, by rw [Nat.zero_mul]; exact hPO⟩
    show f_X3_payEach_b21_it F (f_X3_payEach_b21 F y M) y c (some 40) (nI k) (nI v) (nI k) = _
    simp only [f_X3_payEach_b21_it, q1, nx_eq, ck_true, br_true, br_false, bd_eq, de_eq, mN_sI_, mK_sI_, mL_sI_, mI_sI_ap, mJ_sI_, mR_sI_, mN_sJ_, mK_sJ_, mL_sJ_, mI_sJ_, mJ_sJ_ap, mR_sJ_, mN_sR_, mK_sR_, mL_sR_, mI_sR_, mJ_sR_, mR_sR_ap, Nat.reduceEqDiff, Nat.reduceAdd, ↓reduceIte, and_true, true_and, and_false, false_and, or_true, true_or, or_false, false_or, not_true_eq_false, not_false_eq_true, i10, i01, ii01, ii02, ii03, ii04, ii05, ii12, ii13, ii14, ii15, ii20, ii21, ii23, ii24, ii25, ii30, ii31, ii32, ii34, ii35, ii40, ii41, ii42, ii43, ii45, ii50, ii51, ii52, ii53, ii54, bi_z, Option.some.injEq, reduceCtorEq, Nat.reduceLeDiff]
  | succ j ih =>
    intro k M c pz pd hk hM hR c6 h41 hPO
    obtain ⟨M, rfl⟩ : ∃ x, M = x + 1 := ⟨M - 1, by omega⟩
    obtain ⟨r1, r2, r3, r4, r5, r6, r7, r8, r9, r10, r11, r12, r13, r14, r15, r16, r17, r18, r19⟩ := id hR
    simp only [Nat.reduceAdd] at r2 r8 r14
    obtain ⟨o1, o2, o3, o4, o5, o6⟩ := hPO
    have hkn : k < n := by omega
    have hs := hsb k hkn
    have q1 : ¬ nI e ≤ nI k := nI_ge (by omega) (by omega)
    have g1 : ¬ nI k < 0 := nI_pos (by omega)
    have g2 : ¬ nI n ≤ nI k := nI_ge hkn (by omega)
    have vk := vp_nI (show k < 24 by omega) (show 24 < 2147483648 by decide)
    have nk := nI_cl (show k < 2147483648 by omega)
    have vb := vp_nI hs (show 24 < 2147483648 by decide)
    have nb := nI_cl (show sb k < 2147483648 by omega)
    have g3 : ¬ nI (sb k) < 0 := nI_pos (by omega)
    have g4 : ¬ nI 24 ≤ nI (sb k) := nI_ge hs (by decide)
    have k21 : (21 : Nat) ≤ 22 := by decide
    have k27 : (22 : Nat) ≤ 27 := by decide
    have y1 : ¬ y = y + 1 := by omega
    have e41 := h41 k hkn
    obtain ⟨c', w1, w2, w3, w4⟩ := ih (k + 1) M (sI (sI c (y + 1) (sb k) (nI v)) y 2 (nI (pd + v))) (va_up pz (sb k) v) (pd + v) (by omega) (by omega) hR (by rw [mI_sI_o (by omega), mI_sI_o (by omega)]; exact c6) (fun i hi => by rw [mI_sI_o (by omega), mI_sI_o (by omega)]; exact h41 i hi) ⟨o1, o2, o3, o4, fun b hb => by
        rw [mI_sI_o (by omega)]
        by_cases q : b = sb k
        · rw [q, mI_sI_e, va_up_self]
        · rw [mI_sI_j q, va_up_ne _ _ q]; exact o5 b hb, mI_sI_e⟩
    have fh : frH y c (sI (sI c (y + 1) (sb k) (nI v)) y 2 (nI (pd + v))) := ⟨rfl, rfl, rfl, rfl, rfl, fun x h1 h2 => by rw [mI_sI_o h1, mI_sI_o h2]⟩
    refine ⟨c', ?_, fh.tr w2, fun x hx => by rw [w3 x hx, mI_sI_j hx, mI_sI_o y1], ?_⟩
    · show f_X3_payEach_b21_it F (f_X3_payEach_b21 F y M) y c (some 40) (nI e) (nI v) (nI k) = _
      simp only [f_X3_payEach_b21_it, f_X3_payEach_b70, f_X5_birdAt, q1, g1, g2, r1, r2, r8, r14, c6, vk, nk, e41, g3, o1, o2, o3, o4, k21, k27, g4, vb, nb, y1, o6, nI_add, nI_1, w1, nx_eq, ck_true, br_true, br_false, bd_eq, de_eq, mN_sI_, mK_sI_, mL_sI_, mI_sI_ap, mJ_sI_, mR_sI_, mN_sJ_, mK_sJ_, mL_sJ_, mI_sJ_, mJ_sJ_ap, mR_sJ_, mN_sR_, mK_sR_, mL_sR_, mI_sR_, mJ_sR_, mR_sR_ap, Nat.reduceEqDiff, Nat.reduceAdd, ↓reduceIte, and_true, true_and, and_false, false_and, or_true, true_or, or_false, false_or, not_true_eq_false, not_false_eq_true, i10, i01, ii01, ii02, ii03, ii04, ii05, ii12, ii13, ii14, ii15, ii20, ii21, ii23, ii24, ii25, ii30, ii31, ii32, ii34, ii35, ii40, ii41, ii42, ii43, ii45, ii50, ii51, ii52, ii53, ii54, bi_z, Option.some.injEq, reduceCtorEq, Nat.reduceLeDiff]
    · have : pd + v + j * v = pd + (j + 1) * v := by rw [Nat.add_mul, Nat.one_mul]; omega
      rw [← this]
      exact w4
