/-! items -/
theorem L_RA (F : Nat) (hF : 1000 ≤ F) {B : Nat → Nat} {n z D X u0 : Nat} (hz : TZ B n z) (hD : D < 6) (hX : X < 12) : ∀ d r, r ≤ 5 → 5 ≤ r + d → HRA F B n z D X u0 r (f_X6_readAnyN F (d + 1)) := by
  have z8 : z ≤ 801 := hz.2.2.1
  intro d
  induction d with
  | zero =>
    intro r hr hd
    refine ⟨fun c i p h hk => st_any F (f_X6_readAnyN F 0) z8 h hk p, fun q bl h c m i sc im M hE hh hb hM => ?_⟩
    exact L_any F hF hz hD hX (r := r + 1) (RA := f_X6_readAnyN F 0) (by omega) (fun e => absurd e (by omega)) hE hh hb hM
  | succ d ih =>
    intro r hr hd
    refine ⟨fun c i p h hk => st_any F (f_X6_readAnyN F (d + 1)) z8 h hk p, fun q bl h c m i sc im M hE hh hb hM => ?_⟩
    exact L_any F hF hz hD hX (r := r + 1) (RA := f_X6_readAnyN F (d + 1)) (by omega) (fun e => ih (r + 1) (by omega) (by omega)) hE hh hb hM
/-- both have read something, or both refuse, or the class stands at a strange token -/
def OUTI (B : Nat → Nat) (n z X : Nat) (c m : Mem) (cl rf : Option (Int32 × Mem)) (P : Mem → Mem → Nat → Prop) : Prop :=
  (∃ c' m' j, cl = some (1, c') ∧ rf = some (1, m') ∧ P c' m' j) ∨ (∃ c' m', cl = some (0, c') ∧ rf = some (0, m') ∧ BADS B n z X c m c' m') ∨ ∃ c' m' j, cl = some (1, c') ∧ rf = some (0, m') ∧ frB c c' ∧ frW X m m' ∧ CT B n z c' j ∧ tK B n j = 21 ∧ mI m' 50 41 = 1 ∧ mI m' 50 42 = nI (tP B n j)
/-- the reference, at token i, with no fault -/
def RI (B : Nat → Nat) (n : Nat) (m : Mem) (i : Nat) : Prop := RT B n m i ∧ mI m 50 41 = 0
theorem RI.take (F : Nat) (hF : 1000 ≤ F) {B : Nat → Nat} {n i : Nat} {m : Mem} (X : Nat) (h : RI B n m i) : (¬ tK B n (i + 1) = 21 → ∃ m', f_X11_take F m 50 = some (1, m') ∧ RI B n m' (i + 1) ∧ frW X m m' ∧ (∀ x, x ≠ 50 → mI m' x = mI m x) ∧ ∀ j, j < 44 ∨ 47 < j → mI m' 50 j = mI m 50 j) ∧ (tK B n (i + 1) = 21 → ∃ m', f_X11_take F m 50 = some (0, m') ∧ frW X m m' ∧ (∀ x, x ≠ 50 → mI m' x = mI m x) ∧ mI m' 50 41 = 1 ∧ mI m' 50 42 = nI (tP B n (i + 1))) := by
  obtain ⟨h1, h2⟩ := h
  obtain ⟨e1, e2⟩ := e_takeR F hF h1
  refine ⟨fun hk => ?_, fun hk => ?_⟩
  · obtain ⟨m', a1, a2, ⟨g, rfl⟩, a4⟩ := e1 hk
    exact ⟨_, a1, ⟨a2, by rw [a4 41 (by omega)]; exact h2⟩, frW.w50 (fun j hj => by have := a4 j (by omega); rw [b50] at this; exact this) (fun e => by have e1 := a4 41 (by omega); have e2 := a4 42 (by omega); rw [b50] at e1 e2; exact ⟨e1.symm.trans e, e2⟩), fun x hx => mI_wI_o hx, a4⟩
  · obtain ⟨m', a1, ⟨g, rfl⟩, a3, a4⟩ := e2 hk
    obtain ⟨a5, a6⟩ := a4 h2
    exact ⟨_, a1, frW.w50 (fun j hj => by have := a3 j (by omega); rw [b50] at this; exact this) (fun e => by rw [b50] at a5; rw [a5] at e; exact absurd e (by decide)), fun x hx => mI_wI_o hx, a5, a6⟩
theorem bad_wrI {B : Nat → Nat} {n z X i k : Nat} {c0 m0 c m : Mem} (hT : CT B n z c i) (hM : RI B n m i) (fb : frB c0 c) (fx : frW X m0 m) (k1 : 1 ≤ k) (k3 : k ≤ 3) : BADS B n z X c0 m0 (sI c 3 2 (nI k)) (sI (sI m 50 41 (nI k)) 50 42 (mI m 50 47)) := by
  refine ⟨fb.tr (frB.sI (by omega)), fx.tr (frW.wr (nI_nz k1 k3)), i, k, hT.cg (frB.sI (by omega)) (by rw [mI_sI_o (by decide)]), k1, k3, mI_sI_e, by rw [mI_sI_j (by decide), mI_sI_e], ?_⟩
  rw [mI_sI_e]
  exact hM.1.2.2.1.1
theorem bad_deaW {B : Nat → Nat} {n z X j : Nat} {c0 m0 c m' : Mem} (hT : CT B n z c j) (fb : frB c0 c) (fx : frW X m0 m') (h41 : mI m' 50 41 = 1) (h42 : mI m' 50 42 = nI (tP B n j)) : BADS B n z X c0 m0 (sI c 3 2 1) m' :=
  ⟨fb.tr (frB.sI (by omega)), fx, j, 1, hT.cg (frB.sI (by omega)) (by rw [mI_sI_o (by decide)]), by decide, by decide, mI_sI_e, h41, h42⟩
/-- a sign is wanted: q -/
theorem e_needY (F : Nat) {B : Nat → Nat} {n i q : Nat} {m : Mem} (h : RI B n m i) (h12 : 12 ≤ q) (hq : q < 20) (hk : tK B n i = q) {w : Int32} (hw : w = nI (tC q 0)) {r : Int32} {m' : Mem} (e : f_X11_take F m 50 = some (r, m')) (hr : bz r) : f_X11_need F m 50 (3 : Int32) w = some (r, m') := by
  have hMs := h.1.1.1
  have eI := e_isS F h.1 h12 hq hw
  rw [bi_t hk] at eI
  simp only [f_X11_need, hMs, eI, e, hr, nx_eq, ck_true, br_true, br_false, bd_eq, de_eq, mN_sI_, mK_sI_, mL_sI_, mI_sI_ap, mJ_sI_, mR_sI_, mN_sJ_, mK_sJ_, mL_sJ_, mI_sJ_, mJ_sJ_ap, mR_sJ_, mN_sR_, mK_sR_, mL_sR_, mI_sR_, mJ_sR_, mR_sR_ap, Nat.reduceEqDiff, Nat.reduceAdd, ↓reduceIte, and_true, true_and, and_false, false_and, or_true, true_or, or_false, false_or, not_true_eq_false, not_false_eq_true, i10, i01, ii01, ii02, ii03, ii04, ii05, ii12, ii13, ii14, ii15, ii20, ii21, ii23, ii24, ii25, ii30, ii31, ii32, ii34, ii35, ii40, ii41, ii42, ii43, ii45, ii50, ii51, ii52, ii53, ii54, bi_z, Option.some.injEq, reduceCtorEq, Nat.reduceLeDiff]
theorem e_needN (F : Nat) {B : Nat → Nat} {n i q : Nat} {m : Mem} (h : RI B n m i) (h12 : 12 ≤ q) (hq : q < 20) (hk : ¬ tK B n i = q) {w : Int32} (hw : w = nI (tC q 0)) : f_X11_need F m 50 (3 : Int32) w = some (0, sI (sI m 50 41 1) 50 42 (mI m 50 47)) := by
  have hMs := h.1.1.1
  have eI := e_isS F h.1 h12 hq hw
  rw [bi_f hk] at eI
  have b0 : bz (0 : Int32) := Or.inl rfl
  simp only [f_X11_need, hMs, eI, e_wrongM F hMs h.2, b0, nx_eq, ck_true, br_true, br_false, bd_eq, de_eq, mN_sI_, mK_sI_, mL_sI_, mI_sI_ap, mJ_sI_, mR_sI_, mN_sJ_, mK_sJ_, mL_sJ_, mI_sJ_, mJ_sJ_ap, mR_sJ_, mN_sR_, mK_sR_, mL_sR_, mI_sR_, mJ_sR_, mR_sR_ap, Nat.reduceEqDiff, Nat.reduceAdd, ↓reduceIte, and_true, true_and, and_false, false_and, or_true, true_or, or_false, false_or, not_true_eq_false, not_false_eq_true, i10, i01, ii01, ii02, ii03, ii04, ii05, ii12, ii13, ii14, ii15, ii20, ii21, ii23, ii24, ii25, ii30, ii31, ii32, ii34, ii35, ii40, ii41, ii42, ii43, ii45, ii50, ii51, ii52, ii53, ii54, bi_z, Option.some.injEq, reduceCtorEq, Nat.reduceLeDiff]
/-- the stop behind an item -/
theorem L_stop (F : Nat) (hF : 1000 ≤ F) {B : Nat → Nat} {n z X j : Nat} {c0 m0 c m : Mem} (hz : TZ B n z) (hT : CT B n z c j) (hM : RI B n m j) (fb : frB c0 c) (fx : frW X m0 m) {P : Mem → Mem → Nat → Prop} (hP : ∀ m', RI B n m' (j + 1) → (∀ x, x ≠ 50 → mI m' x = mI m x) → frW X m m' → (∀ t, t < 44 ∨ 47 < t → mI m' 50 t = mI m 50 t) → CT B n z (sI c 4 4 (nI (j + 1))) (j + 1) → tP B n j + 1 ≤ tP B n (j + 1) → P (sI c 4 4 (nI (j + 1))) m' (j + 1)) :
    OUTI B n z X c0 m0 (f_X6_readItem_b105 F 3 c (1 : Int32)) (bd (f_X11_need F m 50 (3 : Int32) (59 : Int32)) (fun r7 σ8 => br (r7 = 0) (some ((0 : Int32), σ8)) (some ((1 : Int32), σ8)))) P := by
  have z8 : z ≤ 801 := hz.2.2.1
  have hCs := hT.1
  have jz := hT.2.2.2.1
  have b0 : bz (0 : Int32) := Or.inl rfl
  have b1 : bz (1 : Int32) := Or.inr rfl
  by_cases k : tK B n j = 16
  · obtain ⟨j1, p1, p2, -⟩ := hz.nxt jz (show ¬ tK B n j = 22 by omega)
    have eT := e_takeY F z8 hT (q := 16) (by decide) k j1
    have eT' : f_X6_take F c 3 (some 1000016) = some (1, sI c 4 4 (nI (j + 1))) := eT
    have hT2 := (e_passT F z8 hT j1).2
    have cl : f_X6_readItem_b105 F 3 c (1 : Int32) = some (1, sI c 4 4 (nI (j + 1))) := by
      simp only [f_X6_readItem_b105, hCs, eT', nx_eq, ck_true, br_true, br_false, bd_eq, de_eq, mN_sI_, mK_sI_, mL_sI_, mI_sI_ap, mJ_sI_, mR_sI_, mN_sJ_, mK_sJ_, mL_sJ_, mI_sJ_, mJ_sJ_ap, mR_sJ_, mN_sR_, mK_sR_, mL_sR_, mI_sR_, mJ_sR_, mR_sR_ap, Nat.reduceEqDiff, Nat.reduceAdd, ↓reduceIte, and_true, true_and, and_false, false_and, or_true, true_or, or_false, false_or, not_true_eq_false, not_false_eq_true, i10, i01, ii01, ii02, ii03, ii04, ii05, ii12, ii13, ii14, ii15, ii20, ii21, ii23, ii24, ii25, ii30, ii31, ii32, ii34, ii35, ii40, ii41, ii42, ii43, ii45, ii50, ii51, ii52, ii53, ii54, bi_z, Option.some.injEq, reduceCtorEq, Nat.reduceLeDiff]
    obtain ⟨t1, t2⟩ := hM.take F hF X
    by_cases d : tK B n (j + 1) = 21
    · obtain ⟨m', a1, a2, a3, a4, a5⟩ := t2 d
      refine Or.inr (Or.inr ⟨_, m', j + 1, cl, ?_, fb.tr (frB.sI (by omega)), fx.tr a2, hT2, d, a4, a5⟩)
      rw [e_needY F hM (q := 16) (by decide) (by decide) k (by decide) a1 b0, bd_eq, br_t1 rfl]
    · obtain ⟨m', a1, a2, a3, a4, a5⟩ := t1 d
      refine Or.inl ⟨_, m', j + 1, cl, ?_, hP m' a2 a4 a3 a5 hT2 p1⟩
      rw [e_needY F hM (q := 16) (by decide) (by decide) k (by decide) a1 b1, bd_eq, br_f1 (by decide)]
  · have eT := e_takeN F z8 hT (q := 16) (by decide) k
    have eT' : f_X6_take F c 3 (some 1000016) = some (0, sI c 3 2 1) := eT
    refine Or.inr (Or.inl ⟨sI c 3 2 1, _, ?_, ?_, bad_wrI (k := 1) hT hM fb fx (by decide) (by decide)⟩)
    · simp only [f_X6_readItem_b105, hCs, eT', nx_eq, ck_true, br_true, br_false, bd_eq, de_eq, mN_sI_, mK_sI_, mL_sI_, mI_sI_ap, mJ_sI_, mR_sI_, mN_sJ_, mK_sJ_, mL_sJ_, mI_sJ_, mJ_sJ_ap, mR_sJ_, mN_sR_, mK_sR_, mL_sR_, mI_sR_, mJ_sR_, mR_sR_ap, Nat.reduceEqDiff, Nat.reduceAdd, ↓reduceIte, and_true, true_and, and_false, false_and, or_true, true_or, or_false, false_or, not_true_eq_false, not_false_eq_true, i10, i01, ii01, ii02, ii03, ii04, ii05, ii12, ii13, ii14, ii15, ii20, ii21, ii23, ii24, ii25, ii30, ii31, ii32, ii34, ii35, ii40, ii41, ii42, ii43, ii45, ii50, ii51, ii52, ii53, ii54, bi_z, Option.some.injEq, reduceCtorEq, Nat.reduceLeDiff]
    · rw [e_needN F hM (q := 16) (by decide) (by decide) k (by decide), bd_eq, br_t1 rfl]
      rfl
/-- a list of the draft, and the reference's -/
def LR (c m : Mem) (l X u z : Nat) : Prop :=
  (mI c 9 l = mI m 77 X ∧ (mI m 77 X = -1 ∨ rg 99999 (mI m 77 X))) ∧ (mI c 10 l = mI m 78 X ∧ (mI m 78 X = -1 ∨ rg 99999 (mI m 78 X))) ∧
  ((mI c 13 l = 0 ∧ mI m 79 X = -1) ∨ ∃ y, 1 ≤ y ∧ y ≤ 8 ∧ mI c 13 l = nI y ∧ mI m 79 X = nI y ∧ ∀ j, j < y → mI c 14 (8 * l + j) = mI m 80 (8 * X + j) ∧ rg 100 (mI m 80 (8 * X + j))) ∧
  u ≤ z ∧ z ≤ 400 ∧ mI c 11 l = nI u ∧ mI c 12 l = nI z ∧ ((u = z ∧ mI m 81 X = -1) ∨ (u < z ∧ mI m 81 X = nI (z - u) ∧ pileH (mI c 15) u (z - u) = some 1 ∧ ∀ k, k < z - u → Rstep (mI c 15 (u + k)) (mI m 82 (800 * X + k)) ∧ mI c 16 (u + k) = mI m 83 (800 * X + k)))
theorem LR.cg {c m c' m' : Mem} {l X u z : Nat} (h : LR c m l X u z) (hc : ∀ x, 9 ≤ x → x ≤ 13 → mI c' x l = mI c x l) (h14 : ∀ j, j < 8 → mI c' 14 (8 * l + j) = mI c 14 (8 * l + j)) (h15 : ∀ k, k < z → mI c' 15 k = mI c 15 k ∧ mI c' 16 k = mI c 16 k) (hm : ∀ x, x = 77 ∨ x = 78 ∨ x = 79 ∨ x = 81 → mI m' x X = mI m x X) (h80 : ∀ j, j < 8 → mI m' 80 (8 * X + j) = mI m 80 (8 * X + j)) (h82 : ∀ k, k < 800 → mI m' 82 (800 * X + k) = mI m 82 (800 * X + k) ∧ mI m' 83 (800 * X + k) = mI m 83 (800 * X + k)) : LR c' m' l X u z := by
  obtain ⟨a1, a2, a3, a4, a5, a6, a7, a8⟩ := h
  unfold LR
  rw [hc 9 (by decide) (by decide), hc 10 (by decide) (by decide), hc 13 (by decide) (by decide), hc 11 (by decide) (by decide), hc 12 (by decide) (by decide), hm 77 (by simp), hm 78 (by simp), hm 79 (by simp), hm 81 (by simp)]
  refine ⟨a1, a2, ?_, a4, a5, a6, a7, ?_⟩
  · rcases a3 with b | ⟨y, y1, y2, y3, y4, y5⟩
    · exact Or.inl b
    · exact Or.inr ⟨y, y1, y2, y3, y4, fun j hj => by rw [h14 j (by omega), h80 j (by omega)]; exact y5 j hj⟩
  · rcases a8 with b | ⟨b1, b2, b3, b4⟩
    · exact Or.inl b
    · refine Or.inr ⟨b1, b2, ?_, fun k hk => ?_⟩
      · rw [← b3]; exact pileH_ext _ (fun k hk => (h15 _ (by omega)).1)
      · rw [(h15 _ (by omega)).1, (h15 _ (by omega)).2, (h82 k (by omega)).1, (h82 k (by omega)).2]; exact b4 k hk
/-- what the reference has of item q of list X -/
def had (m : Mem) (X q : Nat) : Int32 := if q = 1 then mI m 81 X else if q = 2 then mI m 77 X else if q = 3 then mI m 78 X else mI m 79 X
theorem nI_nm1 {n : Nat} (h : n < 2147483648) : ¬ nI n = (-1 : Int32) := fun e => absurd (nI_pos h) (by rw [e]; decide)
theorem e_hasItem (F : Nat) {c m : Mem} (hC : shC c) {D X u z q : Nat} (hD : D < 6) (h9 : mI c 8 9 = nI (D + 1)) (h : LR c m D X u z) (q1 : 1 ≤ q) (q4 : q ≤ 4) : f_X0_hasItem F c 8 (some (1000000 + q)) = some (bi (¬ had m X q = -1), c) := by
  obtain ⟨a1, a2, a3, a4, a5, a6, a7, a8⟩ := h
  have g1 : (0 : Int32) ≤ nI D := nI_pos' (by omega)
  have v2 := vp_nI hD (show 6 < 2147483648 by decide)
  have n2 := nI_cl (show D < 2147483648 by omega)
  have j1 := tok_con (show (1 : Nat) ≤ 22 by decide)
  have j2 := tok_con (show (2 : Nat) ≤ 22 by decide)
  have j3 := tok_con (show (3 : Nat) ≤ 22 by decide)
  have j4 := tok_con (show (4 : Nat) ≤ 22 by decide)
  simp only [Nat.reduceAdd] at j1 j2 j3 j4
  rcases (show q = 1 ∨ q = 2 ∨ q = 3 ∨ q = 4 by omega) with rfl | rfl | rfl | rfl
  · have hh : had m X 1 = mI m 81 X := rfl
    rw [hh]
    rcases a8 with ⟨b1, b2⟩ | ⟨b1, b2, -⟩
    · rw [bi_f (fun y => y b2)]
      have g2 : nI z ≤ nI u := nI_le (by omega) (by omega)
      simp only [f_X0_hasItem, hC, h9, nI_pred, g1, j1, Nat.reduceAdd, v2, n2, a6, a7, g2, nx_eq, ck_true, br_true, br_false, bd_eq, de_eq, mN_sI_, mK_sI_, mL_sI_, mI_sI_ap, mJ_sI_, mR_sI_, mN_sJ_, mK_sJ_, mL_sJ_, mI_sJ_, mJ_sJ_ap, mR_sJ_, mN_sR_, mK_sR_, mL_sR_, mI_sR_, mJ_sR_, mR_sR_ap, Nat.reduceEqDiff, Nat.reduceAdd, ↓reduceIte, and_true, true_and, and_false, false_and, or_true, true_or, or_false, false_or, not_true_eq_false, not_false_eq_true, i10, i01, ii01, ii02, ii03, ii04, ii05, ii12, ii13, ii14, ii15, ii20, ii21, ii23, ii24, ii25, ii30, ii31, ii32, ii34, ii35, ii40, ii41, ii42, ii43, ii45, ii50, ii51, ii52, ii53, ii54, bi_z, Option.some.injEq, reduceCtorEq, Nat.reduceLeDiff]
    · rw [bi_t (by rw [b2]; exact nI_nm1 (by omega))]
      have g2 : ¬ nI z ≤ nI u := nI_ge b1 (by omega)
      simp only [f_X0_hasItem, hC, h9, nI_pred, g1, j1, Nat.reduceAdd, v2, n2, a6, a7, g2, nx_eq, ck_true, br_true, br_false, bd_eq, de_eq, mN_sI_, mK_sI_, mL_sI_, mI_sI_ap, mJ_sI_, mR_sI_, mN_sJ_, mK_sJ_, mL_sJ_, mI_sJ_, mJ_sJ_ap, mR_sJ_, mN_sR_, mK_sR_, mL_sR_, mI_sR_, mJ_sR_, mR_sR_ap, Nat.reduceEqDiff, Nat.reduceAdd, ↓reduceIte, and_true, true_and, and_false, false_and, or_true, true_or, or_false, false_or, not_true_eq_false, not_false_eq_true, i10, i01, ii01, ii02, ii03, ii04, ii05, ii12, ii13, ii14, ii15, ii20, ii21, ii23, ii24, ii25, ii30, ii31, ii32, ii34, ii35, ii40, ii41, ii42, ii43, ii45, ii50, ii51, ii52, ii53, ii54, bi_z, Option.some.injEq, reduceCtorEq, Nat.reduceLeDiff]
  · have hh : had m X 2 = mI m 77 X := rfl
    have t1 : ((some 1000002 : Option Nat) = some 1000001) = False := eq_false (by decide)
    have t2 : ((some 1000002 : Option Nat) = some 1000004) = False := eq_false (by decide)
    rw [hh]
    by_cases e : mI m 77 X = -1
    · rw [bi_f (fun y => y e)]
      simp only [f_X0_hasItem, f_X0_hasItem_b85, hC, h9, nI_pred, g1, j1, j2, j4, t1, t2, Nat.reduceAdd, v2, n2, a1.1, e, nx_eq, ck_true, br_true, br_false, de_eq, and_self]
    · rw [bi_t e]
      simp only [f_X0_hasItem, f_X0_hasItem_b85, hC, h9, nI_pred, g1, j1, j2, j4, t1, t2, Nat.reduceAdd, v2, n2, a1.1, e, nx_eq, ck_true, br_true, br_false, de_eq, and_self]
  · have hh : had m X 3 = mI m 78 X := rfl
    have t1 : ((some 1000003 : Option Nat) = some 1000001) = False := eq_false (by decide)
    have t2 : ((some 1000003 : Option Nat) = some 1000004) = False := eq_false (by decide)
    have t3 : ((some 1000003 : Option Nat) = some 1000002) = False := eq_false (by decide)
    rw [hh]
    by_cases e : mI m 78 X = -1
    · rw [bi_f (fun y => y e)]
      simp only [f_X0_hasItem, f_X0_hasItem_b85, hC, h9, nI_pred, g1, j1, j2, j3, j4, t1, t2, t3, Nat.reduceAdd, v2, n2, a2.1, e, nx_eq, ck_true, br_true, br_false, de_eq, and_self]
    · rw [bi_t e]
      simp only [f_X0_hasItem, f_X0_hasItem_b85, hC, h9, nI_pred, g1, j1, j2, j3, j4, t1, t2, t3, Nat.reduceAdd, v2, n2, a2.1, e, nx_eq, ck_true, br_true, br_false, de_eq, and_self]
  · have hh : had m X 4 = mI m 79 X := rfl
    have t1 : ((some 1000004 : Option Nat) = some 1000001) = False := eq_false (by decide)
    rw [hh]
    rcases a3 with ⟨b1, b2⟩ | ⟨y, y1, y2, y3, y4, -⟩
    · rw [bi_f (fun y => y b2)]
      have g2 : (0 : Int32) ≤ 0 := by decide
      simp only [f_X0_hasItem, hC, h9, nI_pred, g1, j1, j4, t1, Nat.reduceAdd, v2, n2, b1, g2, nx_eq, ck_true, br_true, br_false, de_eq, and_self]
    · rw [bi_t (by rw [y4]; exact nI_nm1 (by omega))]
      have g2 : ¬ nI y ≤ 0 := nI_nle (by omega) (by omega)
      simp only [f_X0_hasItem, hC, h9, nI_pred, g1, j1, j4, t1, Nat.reduceAdd, v2, n2, y3, g2, nx_eq, ck_true, br_true, br_false, de_eq, and_self]
