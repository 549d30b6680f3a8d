/-! the reference at token i -/
def RT (B : Nat → Nat) (n : Nat) (m : Mem) (i : Nat) : Prop := MB m B n ∧ mI m 50 43 = nI n ∧ TKM B n (mI m 50) i ∧ ¬ tK B n i = 21
/-- a fault's place stays where there is no fault -/
def fWr (m m' : Mem) : Prop := mJ m' = mJ m ∧ (mI m' 50 41 = 0 → mI m 50 41 = 0 ∧ mI m' 50 42 = mI m 50 42)
theorem fWr.rf (m : Mem) : fWr m m := ⟨rfl, fun e => ⟨e, rfl⟩⟩
theorem fWr.tr {a b c : Mem} (h : fWr a b) (g : fWr b c) : fWr a c := ⟨g.1.trans h.1, fun e => ⟨(h.2 (g.2 e).1).1, (g.2 e).2.trans (h.2 (g.2 e).1).2⟩⟩
theorem fWr.o {m m' : Mem} (hJ : mJ m' = mJ m) (h1 : mI m' 50 41 = mI m 50 41) (h2 : mI m' 50 42 = mI m 50 42) : fWr m m' := ⟨hJ, fun e => ⟨h1.symm.trans e, h2⟩⟩
/-- what changes in the reference while a list X is read -/
def frW (X : Nat) (m m' : Mem) : Prop := mK m' = mK m ∧ mL m' = mL m ∧ mR m' = mR m ∧ fWr m m' ∧ (∀ x, x ≠ 50 → x < 77 ∨ 84 < x → mI m' x = mI m x) ∧ (∀ x i, x = 77 ∨ x = 78 ∨ x = 79 ∨ x = 81 → i ≠ X → mI m' x i = mI m x i) ∧ (∀ i, i < 8 * X ∨ 8 * X + 8 ≤ i → mI m' 80 i = mI m 80 i) ∧ (∀ x i, x = 82 ∨ x = 83 → i < 800 * X ∨ 800 * X + 800 ≤ i → mI m' x i = mI m x i) ∧ ∀ j, j < 41 ∨ j = 43 ∨ j = 48 ∨ 49 < j → mI m' 50 j = mI m 50 j
theorem frW.rf (X : Nat) (m : Mem) : frW X m m := ⟨rfl, rfl, rfl, fWr.rf m, fun _ _ _ => rfl, fun _ _ _ _ => rfl, fun _ _ => rfl, fun _ _ _ _ => rfl, fun _ _ => rfl⟩
theorem frW.tr {X : Nat} {a b c : Mem} (h : frW X a b) (g : frW X b c) : frW X a c := ⟨g.1.trans h.1, g.2.1.trans h.2.1, g.2.2.1.trans h.2.2.1, h.2.2.2.1.tr g.2.2.2.1, fun x h1 h2 => (g.2.2.2.2.1 x h1 h2).trans (h.2.2.2.2.1 x h1 h2), fun x i h1 h2 => (g.2.2.2.2.2.1 x i h1 h2).trans (h.2.2.2.2.2.1 x i h1 h2), fun i h1 => (g.2.2.2.2.2.2.1 i h1).trans (h.2.2.2.2.2.2.1 i h1), fun x i h1 h2 => (g.2.2.2.2.2.2.2.1 x i h1 h2).trans (h.2.2.2.2.2.2.2.1 x i h1 h2), fun j h1 => (g.2.2.2.2.2.2.2.2 j h1).trans (h.2.2.2.2.2.2.2.2 j h1)⟩
theorem frW.w50 {X : Nat} {m : Mem} {g : Nat → Int32} (h : ∀ j, j < 41 ∨ j = 43 ∨ j = 48 ∨ 49 < j → g j = mI m 50 j) (h' : g 41 = 0 → mI m 50 41 = 0 ∧ g 42 = mI m 50 42) : frW X m (wI m 50 g) := ⟨rfl, rfl, rfl, ⟨rfl, fun e => by rw [mI_wI_e] at e ⊢; exact h' e⟩, fun x h1 _ => mI_wI_o h1, fun x i h1 _ => by rw [mI_wI_o (by omega)], fun i _ => by rw [mI_wI_o (by decide)], fun x i h1 _ => by rw [mI_wI_o (by omega)], fun j hj => by rw [mI_wI_e]; exact h j hj⟩
theorem frW.s50 {X : Nat} {m : Mem} {j : Nat} {v : Int32} (hj : 43 < j ∧ j ≤ 49 ∧ j ≠ 48) : frW X m (sI m 50 j v) := ⟨rfl, rfl, rfl, fWr.o rfl (mI_sI_j (by omega)) (mI_sI_j (by omega)), fun x h1 _ => mI_sI_o h1, fun x i h1 _ => by rw [mI_sI_o (by omega)], fun i _ => by rw [mI_sI_o (by decide)], fun x i h1 _ => by rw [mI_sI_o (by omega)], fun i hi => by rw [mI_sI_j (by omega)]⟩
theorem frW.wr {X : Nat} {m : Mem} {k v : Int32} (hk : ¬ k = 0) : frW X m (sI (sI m 50 41 k) 50 42 v) := ⟨rfl, rfl, rfl, ⟨rfl, fun e => by rw [mI_sI_j (by decide), mI_sI_e] at e; exact absurd e hk⟩, fun x h1 _ => by rw [mI_sI_o h1, mI_sI_o h1], fun x i h1 _ => by rw [mI_sI_o (by omega), mI_sI_o (by omega)], fun i _ => by rw [mI_sI_o (by decide), mI_sI_o (by decide)], fun x i h1 _ => by rw [mI_sI_o (by omega), mI_sI_o (by omega)], fun i hi => by rw [mI_sI_j (by omega), mI_sI_j (by omega)]⟩
theorem frW.s84 {X : Nat} {m : Mem} {j : Nat} {v : Int32} : frW X m (sI m 84 j v) := ⟨rfl, rfl, rfl, fWr.o rfl (by rw [mI_sI_o (by decide)]) (by rw [mI_sI_o (by decide)]), fun x h1 h2 => mI_sI_o (by omega), fun x i h1 _ => by rw [mI_sI_o (by omega)], fun i _ => by rw [mI_sI_o (by decide)], fun x i h1 _ => by rw [mI_sI_o (by omega)], fun i hi => by rw [mI_sI_o (by decide)]⟩
theorem frW.MB {X : Nat} {m m' : Mem} {B : Nat → Nat} {n : Nat} (h : frW X m m') (hm : MB m B n) : MB m' B n := ⟨hm.1.cg h.1 h.2.1 h.2.2.1, hm.2.1, fun i hi => by rw [h.2.2.2.2.1 51 (by decide) (by decide)]; exact hm.2.2 i hi⟩
theorem frW.RT {X : Nat} {m m' : Mem} {B : Nat → Nat} {n i : Nat} (h : frW X m m') (hm : RT B n m i) (hs : ∀ j, 44 ≤ j → j ≤ 47 → mI m' 50 j = mI m 50 j) : RT B n m' i := by
  obtain ⟨a1, a2, a3, a4⟩ := hm
  refine ⟨h.MB a1, by rw [h.2.2.2.2.2.2.2.2 43 (by omega)]; exact a2, ?_, a4⟩
  unfold TKM at a3 ⊢
  rw [hs 44 (by decide) (by decide), hs 45 (by decide) (by decide), hs 46 (by decide) (by decide), hs 47 (by decide) (by decide)]
  exact a3
/-- the same, and limits and pays stay -/
def frX (X : Nat) (m m' : Mem) : Prop := mK m' = mK m ∧ mL m' = mL m ∧ mR m' = mR m ∧ fWr m m' ∧ (∀ x, x ≠ 50 → x < 77 ∨ 84 < x → mI m' x = mI m x) ∧ (∀ x i, x = 77 ∨ x = 78 ∨ x = 79 ∨ x = 81 → i ≠ X → mI m' x i = mI m x i) ∧ (∀ i, i < 8 * X ∨ 8 * X + 8 ≤ i → mI m' 80 i = mI m 80 i) ∧ (∀ x i, x = 82 ∨ x = 83 → i < 800 * X ∨ 800 * X + 800 ≤ i → mI m' x i = mI m x i) ∧ (∀ j, j < 41 ∨ j = 43 ∨ j = 48 ∨ 49 < j → mI m' 50 j = mI m 50 j) ∧ ∀ x, 77 ≤ x → x ≤ 80 → mI m' x = mI m x
theorem frX.w {X : Nat} {m m' : Mem} (h : frX X m m') : frW X m m' := ⟨h.1, h.2.1, h.2.2.1, h.2.2.2.1, h.2.2.2.2.1, h.2.2.2.2.2.1, h.2.2.2.2.2.2.1, h.2.2.2.2.2.2.2.1, h.2.2.2.2.2.2.2.2.1⟩
theorem frW.s {X : Nat} {m m' : Mem} (h : frW X m m') (g : ∀ x, 77 ≤ x → x ≤ 80 → mI m' x = mI m x) : frX X m m' := ⟨h.1, h.2.1, h.2.2.1, h.2.2.2.1, h.2.2.2.2.1, h.2.2.2.2.2.1, h.2.2.2.2.2.2.1, h.2.2.2.2.2.2.2.1, h.2.2.2.2.2.2.2.2, g⟩
theorem frX.k {X : Nat} {m m' : Mem} (h : frX X m m') : ∀ x, 77 ≤ x → x ≤ 80 → mI m' x = mI m x := h.2.2.2.2.2.2.2.2.2
theorem frX.rf (X : Nat) (m : Mem) : frX X m m := (frW.rf X m).s (fun _ _ _ => rfl)
theorem frX.tr {X : Nat} {a b c : Mem} (h : frX X a b) (g : frX X b c) : frX X a c := (h.w.tr g.w).s (fun x h1 h2 => (g.k x h1 h2).trans (h.k x h1 h2))
theorem frX.w50 {X : Nat} {m : Mem} {g : Nat → Int32} (h : ∀ j, j < 41 ∨ j = 43 ∨ j = 48 ∨ 49 < j → g j = mI m 50 j) (h' : g 41 = 0 → mI m 50 41 = 0 ∧ g 42 = mI m 50 42) : frX X m (wI m 50 g) := (frW.w50 h h').s (fun x h1 h2 => mI_wI_o (by omega))
theorem frX.s50 {X : Nat} {m : Mem} {j : Nat} {v : Int32} (hj : 43 < j ∧ j ≤ 49 ∧ j ≠ 48) : frX X m (sI m 50 j v) := (frW.s50 hj).s (fun x h1 h2 => mI_sI_o (by omega))
theorem frX.s84 {X : Nat} {m : Mem} {j : Nat} {v : Int32} : frX X m (sI m 84 j v) := frW.s84.s (fun x h1 h2 => mI_sI_o (by omega))
theorem frX.MB {X : Nat} {m m' : Mem} {B : Nat → Nat} {n : Nat} (h : frX X m m') (hm : MB m B n) : MB m' B n := h.w.MB hm
theorem frX.RT {X : Nat} {m m' : Mem} {B : Nat → Nat} {n i : Nat} (h : frX X m m') (hm : RT B n m i) (hs : ∀ j, 44 ≤ j → j ≤ 47 → mI m' 50 j = mI m 50 j) : RT B n m' i := h.w.RT hm hs
theorem e_takeR (F : Nat) (hF : 1000 ≤ F) {B : Nat → Nat} {n i : Nat} {m : Mem} (h : RT B n m i) : (¬ tK B n (i + 1) = 21 → ∃ m', f_X11_take F m 50 = some (1, m') ∧ RT B n m' (i + 1) ∧ (∃ g, m' = wI m 50 g) ∧ ∀ j, j < 44 ∨ 47 < j → mI m' 50 j = mI m 50 j) ∧ (tK B n (i + 1) = 21 → ∃ m', f_X11_take F m 50 = some (0, m') ∧ (∃ g, m' = wI m 50 g) ∧ (∀ j, j < 41 ∨ j = 43 ∨ 47 < j → mI m' 50 j = mI m 50 j) ∧ (mI m 50 41 = 0 → mI m' 50 41 = 1 ∧ mI m' 50 42 = nI (tP B n (i + 1)))) := by
  obtain ⟨a1, a2, a3, a4⟩ := h
  have e := e_take F hF a1 a2 a3.2.1
  obtain ⟨e1, e2⟩ := e
  rw [wI_id] at e1 e2
  refine ⟨fun hk => ?_, fun hk => ?_⟩
  · obtain ⟨g, b1, b2, b3⟩ := e1 hk
    refine ⟨wI m 50 g, b1, ⟨⟨a1.1, a1.2.1, fun i hi => by rw [b51]; exact a1.2.2 i hi⟩, by rw [b50, b3 43 (by omega)]; exact a2, by rw [b50]; exact b2, hk⟩, ⟨g, rfl⟩, fun j hj => by rw [b50]; exact b3 j hj⟩
  · obtain ⟨g, b1, b2, b3⟩ := e2 hk
    exact ⟨wI m 50 g, b1, ⟨g, rfl⟩, fun j hj => by rw [b50]; exact b2 j hj, fun z => by rw [b50]; exact b3 z⟩
theorem tK_cs {B : Nat → Nat} {n i : Nat} (h : ¬ tK B n i = 21) : tK B n i < 12 ∨ (12 ≤ tK B n i ∧ tK B n i < 20) ∨ tK B n i = 20 ∨ tK B n i = 22 := by
  have := tK_22 (B := B) (n := n) (i := i)
  omega
theorem RT.k0 {B : Nat → Nat} {n i : Nat} {m : Mem} (h : RT B n m i) : (mI m 50 45 = 0) = (tK B n i = 22) ∧ (mI m 50 45 = 1) = (tK B n i < 12) ∧ (mI m 50 45 = 2) = (tK B n i = 20) ∧ (mI m 50 45 = 3) = (12 ≤ tK B n i ∧ tK B n i < 20) := by
  obtain ⟨-, -, ⟨-, -, t1, t2, t3, t4⟩, hk⟩ := h
  rcases tK_cs hk with q | q | q | q
  · rw [(t2 q).1]
    refine ⟨propext ⟨fun z => absurd z (by decide), fun z => by omega⟩, propext ⟨fun _ => q, fun _ => rfl⟩, propext ⟨fun z => absurd z (by decide), fun z => by omega⟩, propext ⟨fun z => absurd z (by decide), fun z => by omega⟩⟩
  · rw [(t4 q.1 q.2).1]
    refine ⟨propext ⟨fun z => absurd z (by decide), fun z => by omega⟩, propext ⟨fun z => absurd z (by decide), fun z => by omega⟩, propext ⟨fun z => absurd z (by decide), fun z => by omega⟩, propext ⟨fun _ => q, fun _ => rfl⟩⟩
  · rw [(t3 q).1]
    refine ⟨propext ⟨fun z => absurd z (by decide), fun z => by omega⟩, propext ⟨fun z => absurd z (by decide), fun z => by omega⟩, propext ⟨fun _ => q, fun _ => rfl⟩, propext ⟨fun z => absurd z (by decide), fun z => by omega⟩⟩
  · rw [t1 q]
    refine ⟨propext ⟨fun _ => q, fun _ => rfl⟩, propext ⟨fun z => absurd z (by decide), fun z => by omega⟩, propext ⟨fun z => absurd z (by decide), fun z => by omega⟩, propext ⟨fun z => absurd z (by decide), fun z => by omega⟩⟩
theorem tab4 : ∀ k, k < 20 → ∀ q, q < 20 → 12 ≤ k → 12 ≤ q → tC k 0 = tC q 0 → k = q := by decide +kernel
theorem tab5 : ∀ k, k < 20 → tC k 0 < 128 := by decide +kernel
theorem e_isG (F : Nat) {m : Mem} (hM : shM m) (k w : Int32) : f_X11_is F m 50 k w = some (bi (mI m 50 45 = k ∧ mI m 50 46 = w), m) := by
  by_cases a : mI m 50 45 = k
  · by_cases b : mI m 50 46 = w
    · rw [bi_t ⟨a, b⟩]
      simp only [f_X11_is, hM, a, b, nx_eq, ck_true, br_true, br_false, bd_eq, de_eq, mN_sI_, mK_sI_, mL_sI_, mI_sI_ap, mJ_sI_, mR_sI_, mN_sJ_, mK_sJ_, mL_sJ_, mI_sJ_, mJ_sJ_ap, mR_sJ_, mN_sR_, mK_sR_, mL_sR_, mI_sR_, mJ_sR_, mR_sR_ap, Nat.reduceEqDiff, Nat.reduceAdd, ↓reduceIte, and_true, true_and, and_false, false_and, or_true, true_or, or_false, false_or, not_true_eq_false, not_false_eq_true, i10, i01, ii01, ii02, ii03, ii04, ii05, ii12, ii13, ii14, ii15, ii20, ii21, ii23, ii24, ii25, ii30, ii31, ii32, ii34, ii35, ii40, ii41, ii42, ii43, ii45, ii50, ii51, ii52, ii53, ii54, bi_z, Option.some.injEq, reduceCtorEq, Nat.reduceLeDiff]
    · rw [bi_f (fun z => b z.2)]
      simp only [f_X11_is, hM, a, b, nx_eq, ck_true, br_true, br_false, bd_eq, de_eq, mN_sI_, mK_sI_, mL_sI_, mI_sI_ap, mJ_sI_, mR_sI_, mN_sJ_, mK_sJ_, mL_sJ_, mI_sJ_, mJ_sJ_ap, mR_sJ_, mN_sR_, mK_sR_, mL_sR_, mI_sR_, mJ_sR_, mR_sR_ap, Nat.reduceEqDiff, Nat.reduceAdd, ↓reduceIte, and_true, true_and, and_false, false_and, or_true, true_or, or_false, false_or, not_true_eq_false, not_false_eq_true, i10, i01, ii01, ii02, ii03, ii04, ii05, ii12, ii13, ii14, ii15, ii20, ii21, ii23, ii24, ii25, ii30, ii31, ii32, ii34, ii35, ii40, ii41, ii42, ii43, ii45, ii50, ii51, ii52, ii53, ii54, bi_z, Option.some.injEq, reduceCtorEq, Nat.reduceLeDiff]
  · rw [bi_f (fun z => a z.1)]
    simp only [f_X11_is, hM, a, nx_eq, ck_true, br_true, br_false, bd_eq, de_eq, mN_sI_, mK_sI_, mL_sI_, mI_sI_ap, mJ_sI_, mR_sI_, mN_sJ_, mK_sJ_, mL_sJ_, mI_sJ_, mJ_sJ_ap, mR_sJ_, mN_sR_, mK_sR_, mL_sR_, mI_sR_, mJ_sR_, mR_sR_ap, Nat.reduceEqDiff, Nat.reduceAdd, ↓reduceIte, and_true, true_and, and_false, false_and, or_true, true_or, or_false, false_or, not_true_eq_false, not_false_eq_true, i10, i01, ii01, ii02, ii03, ii04, ii05, ii12, ii13, ii14, ii15, ii20, ii21, ii23, ii24, ii25, ii30, ii31, ii32, ii34, ii35, ii40, ii41, ii42, ii43, ii45, ii50, ii51, ii52, ii53, ii54, bi_z, Option.some.injEq, reduceCtorEq, Nat.reduceLeDiff]
theorem e_isW (F : Nat) {B : Nat → Nat} {n i q : Nat} {m : Mem} (h : RT B n m i) (hq : q < 12) {w : Int32} (hw : w = nI (q + 1)) : f_X11_is F m 50 (1 : Int32) w = some (bi (tK B n i = q), m) := by
  rw [e_isG F h.1.1]
  refine congrArg (fun z => some (z, m)) (bi_c ?_)
  have k := h.k0.2.1
  obtain ⟨-, -, ⟨-, -, t1, t2, t3, t4⟩, hk⟩ := h
  rw [k, hw]
  constructor
  · intro z
    have := (t2 z.1).2
    rw [this] at z
    have := (nI_eq (by omega) (by omega)).mp z.2
    omega
  · intro z
    exact ⟨by omega, by rw [(t2 (by omega)).2, z]⟩
theorem e_isS (F : Nat) {B : Nat → Nat} {n i q : Nat} {m : Mem} (h : RT B n m i) (h12 : 12 ≤ q) (hq : q < 20) {w : Int32} (hw : w = nI (tC q 0)) : f_X11_is F m 50 (3 : Int32) w = some (bi (tK B n i = q), m) := by
  rw [e_isG F h.1.1]
  refine congrArg (fun z => some (z, m)) (bi_c ?_)
  have k := h.k0.2.2.2
  obtain ⟨-, -, ⟨-, -, t1, t2, t3, t4⟩, hk⟩ := h
  rw [k, hw]
  have b1 := tab5 q hq
  constructor
  · intro z
    rw [(t4 z.1.1 z.1.2).2] at z
    have b2 := tab5 _ z.1.2
    exact tab4 _ z.1.2 q hq z.1.1 h12 ((nI_eq (by omega) (by omega)).mp z.2)
  · intro z
    exact ⟨by omega, by rw [(t4 (by omega) (by omega)).2, z]⟩
theorem e_wrongM (F : Nat) {m : Mem} (hM : shM m) (h0 : mI m 50 41 = 0) (a b : Int32) : f_X11_wrong F m 50 a b = some (0, sI (sI m 50 41 a) 50 42 b) := by
  simp only [f_X11_wrong, hM, h0, nx_eq, ck_true, br_true, br_false, bd_eq, de_eq, mN_sI_, mK_sI_, mL_sI_, mI_sI_ap, mJ_sI_, mR_sI_, mN_sJ_, mK_sJ_, mL_sJ_, mI_sJ_, mJ_sJ_ap, mR_sJ_, mN_sR_, mK_sR_, mL_sR_, mI_sR_, mJ_sR_, mR_sR_ap, Nat.reduceEqDiff, Nat.reduceAdd, ↓reduceIte, and_true, true_and, and_false, false_and, or_true, true_or, or_false, false_or, not_true_eq_false, not_false_eq_true, i10, i01, ii01, ii02, ii03, ii04, ii05, ii12, ii13, ii14, ii15, ii20, ii21, ii23, ii24, ii25, ii30, ii31, ii32, ii34, ii35, ii40, ii41, ii42, ii43, ii45, ii50, ii51, ii52, ii53, ii54, bi_z, Option.some.injEq, reduceCtorEq, Nat.reduceLeDiff]
theorem e_emit (F : Nat) {m : Mem} (hM : shM m) {X im : Nat} (hX : X < 12) (him : im < 800) (h81 : mI m 81 X = nI im) (v w : Int32) : f_X11_emit F m 50 (nI X) v w = some ((), sI (sI (sI m 82 (800 * X + im) v) 83 (800 * X + im) w) 81 X (nI (im + 1))) := by
  have vX := vp_nI hX (show 12 < 2147483648 by decide)
  have nX := nI_cl (show X < 2147483648 by omega)
  have v1 := vp_nI (show 800 * X + im < 9600 by omega) (show 9600 < 2147483648 by decide)
  have n1 := nI_cl (show 800 * X + im < 2147483648 by omega)
  simp only [f_X11_emit, hM, vX, nX, h81, i800, v1, n1, nI_1, nx_eq, ck_true, br_true, br_false, bd_eq, de_eq, mN_sI_, mK_sI_, mL_sI_, mI_sI_ap, mJ_sI_, mR_sI_, mN_sJ_, mK_sJ_, mL_sJ_, mI_sJ_, mJ_sJ_ap, mR_sJ_, mN_sR_, mK_sR_, mL_sR_, mI_sR_, mJ_sR_, mR_sR_ap, Nat.reduceEqDiff, Nat.reduceAdd, ↓reduceIte, and_true, true_and, and_false, false_and, or_true, true_or, or_false, false_or, not_true_eq_false, not_false_eq_true, i10, i01, ii01, ii02, ii03, ii04, ii05, ii12, ii13, ii14, ii15, ii20, ii21, ii23, ii24, ii25, ii30, ii31, ii32, ii34, ii35, ii40, ii41, ii42, ii43, ii45, ii50, ii51, ii52, ii53, ii54, bi_z, Option.some.injEq, reduceCtorEq, Nat.reduceLeDiff]
theorem frW.em {X im : Nat} {m : Mem} {v w x : Int32} (him : im < 800) : frW X m (sI (sI (sI m 82 (800 * X + im) v) 83 (800 * X + im) w) 81 X x) := ⟨rfl, rfl, rfl, fWr.o rfl (by rw [mI_sI_o (by decide), mI_sI_o (by decide), mI_sI_o (by decide)]) (by rw [mI_sI_o (by decide), mI_sI_o (by decide), mI_sI_o (by decide)]), fun y h1 h2 => by rw [mI_sI_o (by omega), mI_sI_o (by omega), mI_sI_o (by omega)], fun y i h1 h2 => by
    rcases h1 with rfl | rfl | rfl | rfl
    · rw [mI_sI_o (by decide), mI_sI_o (by decide), mI_sI_o (by decide)]
    · rw [mI_sI_o (by decide), mI_sI_o (by decide), mI_sI_o (by decide)]
    · rw [mI_sI_o (by decide), mI_sI_o (by decide), mI_sI_o (by decide)]
    · rw [mI_sI_j h2, mI_sI_o (by decide), mI_sI_o (by decide)], fun i _ => by rw [mI_sI_o (by decide), mI_sI_o (by decide), mI_sI_o (by decide)], fun y i h1 h2 => by
    rcases h1 with rfl | rfl
    · rw [mI_sI_o (by decide), mI_sI_o (by decide), mI_sI_j (by omega)]
    · rw [mI_sI_o (by decide), mI_sI_j (by omega), mI_sI_o (by decide)], fun j _ => by rw [mI_sI_o (by decide), mI_sI_o (by decide), mI_sI_o (by decide)]⟩
theorem frX.em {X im : Nat} {m : Mem} {v w x : Int32} (him : im < 800) : frX X m (sI (sI (sI m 82 (800 * X + im) v) 83 (800 * X + im) w) 81 X x) := (frW.em him).s (fun y h1 h2 => by rw [mI_sI_o (by omega), mI_sI_o (by omega), mI_sI_o (by omega)])
/-- steps of the class from u0 on, and the reference's: im of them are out, pn wait above bl -/
def SR (c m : Mem) (u0 X im bl pn lev : Nat) : Prop :=
  (∀ k, k < im → Rstep (mI c 15 (u0 + k)) (mI m 82 (800 * X + k)) ∧ mI c 16 (u0 + k) = mI m 83 (800 * X + k)) ∧ ∀ j, j < pn → ∃ v, lev ≤ v ∧ 6 ≤ v ∧ v ≤ 8 ∧ mI m 84 (bl + j) = nI v ∧ mI c 15 (u0 + im + (pn - 1 - j)) = nI (20 - v) ∧ mI c 16 (u0 + im + (pn - 1 - j)) = 0
theorem Rstep_op {v : Nat} (h1 : 6 ≤ v) (h2 : v ≤ 8) : Rstep (nI (20 - v)) (nI v) := by
  rcases (show v = 6 ∨ v = 7 ∨ v = 8 by omega) with rfl | rfl | rfl
  · exact Or.inr (Or.inr (Or.inl ⟨rfl, rfl⟩))
  · exact Or.inr (Or.inl ⟨rfl, rfl⟩)
  · exact Or.inl ⟨rfl, rfl⟩
theorem lp_leave (F : Nat) {c : Mem} {u0 X bl lev q : Nat} (hX : X < 12) (hq : q ≤ lev) (hq8 : q ≤ 8) : ∀ pn im m M, pn < M → shM m → mI m 50 49 = nI (bl + pn) → mI m 81 X = nI im → im + pn < 800 → bl + pn ≤ 810 → SR c m u0 X im bl pn lev → (bl = 0 ∨ ∃ v, v < q ∧ mI m 84 (bl - 1) = nI v) →
    ∃ m', f_X11_leave_b0 F 50 M m (nI X) (nI q) = some ((), m') ∧ frX X m m' ∧ mI m' 84 = mI m 84 ∧ mI m' 50 49 = nI bl ∧ (∀ j, j ≠ 49 → mI m' 50 j = mI m 50 j) ∧ mI m' 81 X = nI (im + pn) ∧ SR c m' u0 X (im + pn) bl 0 lev := by
  intro pn
  induction pn with
  | zero =>
    intro im m M hM2 hM h49 h81 hi hb hSR hbl
    obtain ⟨M, rfl⟩ : ∃ x, M = x + 1 := ⟨M - 1, by omega⟩
    refine ⟨m, ?_, frX.rf X m, rfl, h49, fun _ _ => rfl, h81, hSR⟩
    show f_X11_leave_b0_it F (f_X11_leave_b0 F 50 M) 50 m (nI X) (nI q) = _
    rw [Nat.add_zero] at h49
    rcases hbl with e | ⟨v, v1, v2⟩
    · have g : nI bl ≤ 0 := nI_le (b := 0) (by omega) (by decide)
      simp only [f_X11_leave_b0_it, hM, h49, g, nx_eq, ck_true, br_true, br_false, bd_eq, de_eq, mN_sI_, mK_sI_, mL_sI_, mI_sI_ap, mJ_sI_, mR_sI_, mN_sJ_, mK_sJ_, mL_sJ_, mI_sJ_, mJ_sJ_ap, mR_sJ_, mN_sR_, mK_sR_, mL_sR_, mI_sR_, mJ_sR_, mR_sR_ap, Nat.reduceEqDiff, Nat.reduceAdd, ↓reduceIte, and_true, true_and, and_false, false_and, or_true, true_or, or_false, false_or, not_true_eq_false, not_false_eq_true, i10, i01, ii01, ii02, ii03, ii04, ii05, ii12, ii13, ii14, ii15, ii20, ii21, ii23, ii24, ii25, ii30, ii31, ii32, ii34, ii35, ii40, ii41, ii42, ii43, ii45, ii50, ii51, ii52, ii53, ii54, bi_z, Option.some.injEq, reduceCtorEq, Nat.reduceLeDiff]
    · by_cases e : bl = 0
      · have g : nI bl ≤ 0 := nI_le (b := 0) (by omega) (by decide)
        simp only [f_X11_leave_b0_it, hM, h49, g, nx_eq, ck_true, br_true, br_false, bd_eq, de_eq, mN_sI_, mK_sI_, mL_sI_, mI_sI_ap, mJ_sI_, mR_sI_, mN_sJ_, mK_sJ_, mL_sJ_, mI_sJ_, mJ_sJ_ap, mR_sJ_, mN_sR_, mK_sR_, mL_sR_, mI_sR_, mJ_sR_, mR_sR_ap, Nat.reduceEqDiff, Nat.reduceAdd, ↓reduceIte, and_true, true_and, and_false, false_and, or_true, true_or, or_false, false_or, not_true_eq_false, not_false_eq_true, i10, i01, ii01, ii02, ii03, ii04, ii05, ii12, ii13, ii14, ii15, ii20, ii21, ii23, ii24, ii25, ii30, ii31, ii32, ii34, ii35, ii40, ii41, ii42, ii43, ii45, ii50, ii51, ii52, ii53, ii54, bi_z, Option.some.injEq, reduceCtorEq, Nat.reduceLeDiff]
      · have g : ¬ nI bl ≤ 0 := nI_nle (by omega) (by omega)
        have e1 : nI bl - (1 : Int32) = nI (bl - 1) := by rw [show (1 : Int32) = nI 1 from rfl, pk_sub (by omega)]
        have v3 := vp_nI (show bl - 1 < 820 by omega) (show 820 < 2147483648 by decide)
        have n3 := nI_cl (show bl - 1 < 2147483648 by omega)
        have g2 : nI v < nI q := nI_lt v1 (by omega)
        simp only [f_X11_leave_b0_it, hM, h49, g, e1, v3, n3, v2, g2, nx_eq, ck_true, br_true, br_false, bd_eq, de_eq, mN_sI_, mK_sI_, mL_sI_, mI_sI_ap, mJ_sI_, mR_sI_, mN_sJ_, mK_sJ_, mL_sJ_, mI_sJ_, mJ_sJ_ap, mR_sJ_, mN_sR_, mK_sR_, mL_sR_, mI_sR_, mJ_sR_, mR_sR_ap, Nat.reduceEqDiff, Nat.reduceAdd, ↓reduceIte, and_true, true_and, and_false, false_and, or_true, true_or, or_false, false_or, not_true_eq_false, not_false_eq_true, i10, i01, ii01, ii02, ii03, ii04, ii05, ii12, ii13, ii14, ii15, ii20, ii21, ii23, ii24, ii25, ii30, ii31, ii32, ii34, ii35, ii40, ii41, ii42, ii43, ii45, ii50, ii51, ii52, ii53, ii54, bi_z, Option.some.injEq, reduceCtorEq, Nat.reduceLeDiff]
  | succ pn ih =>
    intro im m M hM2 hM h49 h81 hi hb hSR hbl
    obtain ⟨M, rfl⟩ : ∃ x, M = x + 1 := ⟨M - 1, by omega⟩
    obtain ⟨s1, s2⟩ := hSR
    obtain ⟨v, w1, w2, w3, w4, w5, w6⟩ := s2 pn (by omega)
    rw [show pn + 1 - 1 - pn = 0 by omega, Nat.add_zero] at w5 w6
    have g : ¬ nI (bl + (pn + 1)) ≤ 0 := nI_nle (by omega) (by omega)
    have e1 : nI (bl + (pn + 1)) - (1 : Int32) = nI (bl + pn) := nI_pred (bl + pn)
    have v3 := vp_nI (show bl + pn < 820 by omega) (show 820 < 2147483648 by decide)
    have n3 := nI_cl (show bl + pn < 2147483648 by omega)
    have g2 : ¬ nI v < nI q := nI_nlt (by omega) (by omega)
    have hM1 : shM (sI m 50 49 (nI (bl + pn))) := hM.cg rfl rfl rfl
    have eE := e_emit F hM1 hX (show im < 800 by omega) (by rw [mI_sI_o (by decide)]; exact h81) (nI v) 0
    obtain ⟨m1, hm1⟩ : ∃ m1, sI (sI (sI (sI m 50 49 (nI (bl + pn))) 82 (800 * X + im) (nI v)) 83 (800 * X + im) 0) 81 X (nI (im + 1)) = m1 := ⟨_, rfl⟩
    have fx : frX X m m1 := by rw [← hm1]; exact (frX.s50 (by omega)).tr (frX.em (by omega))
    have i84 : mI m1 84 = mI m 84 := by rw [← hm1, mI_sI_o (by decide), mI_sI_o (by decide), mI_sI_o (by decide), mI_sI_o (by decide)]
    have i82 : mI m1 82 (800 * X + im) = nI v := by rw [← hm1, mI_sI_o (by decide), mI_sI_o (by decide), mI_sI_e]
    have i83 : mI m1 83 (800 * X + im) = 0 := by rw [← hm1, mI_sI_o (by decide), mI_sI_e]
    have i82o : ∀ k, k ≠ 800 * X + im → mI m1 82 k = mI m 82 k ∧ mI m1 83 k = mI m 83 k := fun k hk => by rw [← hm1]; exact ⟨by rw [mI_sI_o (by decide), mI_sI_o (by decide), mI_sI_j hk, mI_sI_o (by decide)], by rw [mI_sI_o (by decide), mI_sI_j hk, mI_sI_o (by decide), mI_sI_o (by decide)]⟩
    have i49 : mI m1 50 49 = nI (bl + pn) := by rw [← hm1, mI_sI_o (by decide), mI_sI_o (by decide), mI_sI_o (by decide), mI_sI_e]
    have i50 : ∀ j, j ≠ 49 → mI m1 50 j = mI m 50 j := fun j hj => by rw [← hm1, mI_sI_o (by decide), mI_sI_o (by decide), mI_sI_o (by decide), mI_sI_j hj]
    have i81 : mI m1 81 X = nI (im + 1) := by rw [← hm1, mI_sI_e]
    obtain ⟨m', a1, a2, a3, a4, a5, a6, a7⟩ := ih (im + 1) m1 M (by omega) (hM.cg fx.1 fx.2.1 fx.2.2.1) i49 i81 (by omega) (by omega) ⟨fun k hk => by
        by_cases e : k = im
        · rw [e, i82, i83, w5, w6]; exact ⟨Rstep_op w2 w3, rfl⟩
        · obtain ⟨o1, o2⟩ := i82o (800 * X + k) (by omega)
          rw [o1, o2]; exact s1 k (by omega), fun j hj => by
        obtain ⟨v', y1, y2, y3, y4, y5, y6⟩ := s2 j (by omega)
        refine ⟨v', y1, y2, y3, by rw [i84]; exact y4, ?_, ?_⟩
        · rw [show u0 + (im + 1) + (pn - 1 - j) = u0 + im + (pn + 1 - 1 - j) by omega]; exact y5
        · rw [show u0 + (im + 1) + (pn - 1 - j) = u0 + im + (pn + 1 - 1 - j) by omega]; exact y6⟩ (by rw [i84]; exact hbl)
    refine ⟨m', ?_, fx.tr a2, a3.trans i84, a4, fun j hj => (a5 j hj).trans (i50 j hj), ?_, ?_⟩
    · show f_X11_leave_b0_it F (f_X11_leave_b0 F 50 M) 50 m (nI X) (nI q) = _
      simp only [f_X11_leave_b0_it, hM, h49, g, e1, v3, n3, w4, g2, eE, hm1, a1, nx_eq, ck_true, br_true, br_false, bd_eq, de_eq, mN_sI_, mK_sI_, mL_sI_, mI_sI_ap, mJ_sI_, mR_sI_, mN_sJ_, mK_sJ_, mL_sJ_, mI_sJ_, mJ_sJ_ap, mR_sJ_, mN_sR_, mK_sR_, mL_sR_, mI_sR_, mJ_sR_, mR_sR_ap, Nat.reduceEqDiff, Nat.reduceAdd, ↓reduceIte, and_true, true_and, and_false, false_and, or_true, true_or, or_false, false_or, not_true_eq_false, not_false_eq_true, i10, i01, ii01, ii02, ii03, ii04, ii05, ii12, ii13, ii14, ii15, ii20, ii21, ii23, ii24, ii25, ii30, ii31, ii32, ii34, ii35, ii40, ii41, ii42, ii43, ii45, ii50, ii51, ii52, ii53, ii54, bi_z, Option.some.injEq, reduceCtorEq, Nat.reduceLeDiff]
    · rw [a6]; exact congrArg nI (by omega)
    · rw [show im + (pn + 1) = im + 1 + pn by omega]; exact a7
