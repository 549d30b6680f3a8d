/-! an item: its word -/
def IS (B : Nat → Nat) (n z D X : Nat) (c m : Mem) (i u sc : Nat) : Prop := GC B n z D c i sc ∧ RI B n m i ∧ LR c m D X u sc ∧ 2 * sc ≤ tP B n i
def FI (D : Nat) (c c' : Mem) (sc : Nat) : Prop := frB c c' ∧ (∀ x l, 9 ≤ x → x ≤ 13 → l ≠ D → mI c' x l = mI c x l) ∧ (∀ i, i < 8 * D ∨ 8 * D + 8 ≤ i → mI c' 14 i = mI c 14 i) ∧ (∀ k, k < sc → mI c' 15 k = mI c 15 k ∧ mI c' 16 k = mI c 16 k) ∧ mI c' 8 9 = mI c 8 9
theorem FI.rf (D : Nat) (c : Mem) (sc : Nat) : FI D c c sc := ⟨frB.rf c, fun _ _ _ _ _ => rfl, fun _ _ => rfl, fun _ _ => ⟨rfl, rfl⟩, rfl⟩
theorem FI.tr {D : Nat} {a b c : Mem} {s t : Nat} (h : FI D a b s) (g : FI D b c t) (hst : s ≤ t) : FI D a c s := ⟨h.1.tr g.1, fun x l h1 h2 h3 => (g.2.1 x l h1 h2 h3).trans (h.2.1 x l h1 h2 h3), fun i hi => (g.2.2.1 i hi).trans (h.2.2.1 i hi), fun k hk => ⟨((g.2.2.2.1 k (by omega)).1).trans (h.2.2.2.1 k hk).1, ((g.2.2.2.1 k (by omega)).2).trans (h.2.2.2.1 k hk).2⟩, g.2.2.2.2.trans h.2.2.2.2⟩
theorem FC.FI {D : Nat} {c c' : Mem} {sc : Nat} (h : FC D c c' sc) : FI D c c' sc := ⟨h.1, fun x l h1 h2 h3 => by
  by_cases e : x = 12
  · rw [e]; exact h.2.2.2.1 l h3
  · rw [h.2.2.1 x (by omega)], fun i _ => by rw [h.2.2.1 14 (by omega)], h.2.1, h.2.2.2.2⟩
theorem FI.s4 (D : Nat) (c : Mem) (sc : Nat) (v : Int32) : FI D c (sI c 4 4 v) sc := (FC.nx D c sc v).FI
def pr (x : Int32) : Nat := if x = -1 then 0 else 1
def cI (m : Mem) (X : Nat) : Nat := pr (mI m 81 X) + pr (mI m 77 X) + pr (mI m 78 X) + pr (mI m 79 X)
theorem pr_0 {x : Int32} (h : x = -1) : pr x = 0 := if_pos h
theorem pr_1 {x : Int32} (h : ¬ x = -1) : pr x = 1 := if_neg h
/-- an item has been read -/
def PI (B : Nat → Nat) (n z D X : Nat) (c m : Mem) (i u sc : Nat) : Mem → Mem → Nat → Prop := fun c' m' j => FI D c c' sc ∧ frW X m m' ∧ i < j ∧ (∃ sc', sc ≤ sc' ∧ IS B n z D X c' m' j u sc') ∧ cI m' X = cI m X + 1
theorem rc_item (F : Nat) {B : Nat → Nat} {n z D X i u sc q : Nat} {c m : Mem} (hz : TZ B n z) (hD : D < 6) (h : IS B n z D X c m i u sc) (hq : tK B n i = q) (q1 : 1 ≤ q) (q4 : q ≤ 4) (hh : had m X q = -1) (i1 : i + 1 < z) : f_X6_readItem F c 3 = bd (if q = 1 then f_X6_readAnyN F 8 (sI c 4 4 (nI (i + 1))) 3 (0 : Int32) else if q = 4 then f_X6_readPays F (sI c 4 4 (nI (i + 1))) 3 else f_X6_readLimit F (sI c 4 4 (nI (i + 1))) 3 (some (1000000 + q))) (fun r σ => f_X6_readItem_b105 F 3 σ r) := by
  have z8 : z ≤ 801 := hz.2.2.1
  have hCs := h.1.1.1
  have eK := e_kindT F z8 h.1.1
  have eH := e_hasItem F hCs hD h.1.2.2.1 h.2.2.1 q1 q4
  rw [bi_f (fun y => y hh)] at eH
  have eP := (e_passT F z8 h.1.1 i1).1
  have j1 := tok_con (show (1 : Nat) ≤ 22 by decide)
  have j2 := tok_con (show (2 : Nat) ≤ 22 by decide)
  have j3 := tok_con (show (3 : Nat) ≤ 22 by decide)
  have j4 := tok_con (show (4 : Nat) ≤ 22 by decide)
  simp only [Nat.reduceAdd] at j1 j2 j3 j4
  rw [hq] at eK
  have k7 : mK (sI c 4 4 (nI (i + 1))) 3 = 7 := by show mK c 3 = 7; simp only [hCs]
  rcases (show q = 1 ∨ q = 2 ∨ q = 3 ∨ q = 4 by omega) with rfl | rfl | rfl | rfl
  · simp only [Nat.reduceAdd] at eK eH
    simp only [f_X6_readItem, f_X6_readItem_b42, hCs, eK, eH, eP, j1, nx_eq, ck_true, br_true, br_false, bd_eq, de_eq, and_self, i01, k7, ↓reduceIte]
  · simp only [Nat.reduceAdd] at eK eH
    have t1 : ((some 1000002 : Option Nat) = some 1000001) = False := eq_false (by decide)
    have t2 : ((some 1000002 : Option Nat) = some 1000004) = False := eq_false (by decide)
    simp only [f_X6_readItem, f_X6_readItem_b42, hCs, eK, eH, eP, j1, j2, j4, t1, t2, nx_eq, ck_true, br_true, br_false, bd_eq, de_eq, and_self, i01, k7, Nat.reduceAdd]
    rfl
  · simp only [Nat.reduceAdd] at eK eH
    have t1 : ((some 1000003 : Option Nat) = some 1000001) = False := eq_false (by decide)
    have t2 : ((some 1000003 : Option Nat) = some 1000004) = False := eq_false (by decide)
    have t3 : ((some 1000003 : Option Nat) = some 1000002) = False := eq_false (by decide)
    simp only [f_X6_readItem, f_X6_readItem_b42, hCs, eK, eH, eP, j1, j2, j3, j4, t1, t2, t3, nx_eq, ck_true, br_true, br_false, bd_eq, de_eq, and_self, i01, k7, Nat.reduceAdd]
    rfl
  · simp only [Nat.reduceAdd] at eK eH
    have t1 : ((some 1000004 : Option Nat) = some 1000001) = False := eq_false (by decide)
    have t2 : ((some 1000004 : Option Nat) = some 1000002) = False := eq_false (by decide)
    have t3 : ((some 1000004 : Option Nat) = some 1000003) = False := eq_false (by decide)
    simp only [f_X6_readItem, f_X6_readItem_b42, hCs, eK, eH, eP, j1, j2, j3, j4, t1, t2, t3, nx_eq, ck_true, br_true, br_false, bd_eq, de_eq, and_self, i01, k7, Nat.reduceAdd]
    rfl
/-- what the reference does behind an item's word -/
noncomputable def itT (F X q : Nat) (m : Mem) : Option (Int32 × Mem) :=
  if q = 1 then bd (f_X11_condition F m 50 (nI X)) (fun r32 σ33 => br (r32 = 0) (some ((0 : Int32), σ33)) (ck (mK σ33 50 = 11) (bd (f_X11_need F σ33 50 (3 : Int32) (59 : Int32)) (fun r7 σ8 => br (r7 = 0) (some ((0 : Int32), σ8)) (some ((1 : Int32), σ8))))))
  else if q = 4 then bd (f_X11_pays F m 50 (nI X)) (fun r32 σ33 => br (r32 = 0) (some ((0 : Int32), σ33)) (ck (mK σ33 50 = 11) (bd (f_X11_need F σ33 50 (3 : Int32) (59 : Int32)) (fun r7 σ8 => br (r7 = 0) (some ((0 : Int32), σ8)) (some ((1 : Int32), σ8))))))
  else br (mI m 50 45 = (2 : Int32)) (br (q = 2) (br (mI m 50 46 = 0) (bd (f_X11_wrong F m 50 (3 : Int32) (mI m 50 47)) (fun r13 σ14 => ck (bz r13) (some (r13, σ14)))) (f_X11_item_b210 F 50 m (nI X) (nI (q + 1)))) (f_X11_item_b210 F 50 m (nI X) (nI (q + 1)))) (bd (f_X11_wrong F m 50 (1 : Int32) (mI m 50 47)) (fun r17 σ18 => ck (bz r17) (some (r17, σ18))))
theorem rm_item (F : Nat) {B : Nat → Nat} {n X i q : Nat} {m : Mem} (hX : X < 12) (h : RI B n m i) (hq : tK B n i = q) (q1 : 1 ≤ q) (q4 : q ≤ 4) (hh : had m X q = -1) : (∀ m', f_X11_take F m 50 = some (0, m') → f_X11_item F m 50 (nI X) = some (0, m')) ∧ ∀ m', f_X11_take F m 50 = some (1, m') → shM m' → f_X11_item F m 50 (nI X) = itT F X q m' := by
  have hMs := h.1.1.1
  have k45 : (mI m 50 45 = 1) = True := by rw [h.1.k0.2.1]; exact eq_true (by omega)
  have w46 : mI m 50 46 = nI (q + 1) := by rw [(h.1.2.2.1.2.2.2.1 (by omega)).2, hq]
  have vX := vp_nI hX (show 12 < 2147483648 by decide)
  have nX := nI_cl (show X < 2147483648 by omega)
  rcases (show q = 1 ∨ q = 2 ∨ q = 3 ∨ q = 4 by omega) with rfl | rfl | rfl | rfl
  · have w : mI m 50 46 = (2 : Int32) := w46
    have hd : mI m 81 X = -1 := hh
    have a1 : ((2 : Int32) < 2) = False := eq_false (by decide)
    have a2 : ((2 : Int32) ≤ 5) = True := eq_true (by decide)
    refine ⟨fun m' e => ?_, fun m' e hM' => ?_⟩
    · simp only [f_X11_item, f_X11_item_b87, hMs, k45, w, a1, a2, vX, nX, hd, e, nx_eq, ck_true, br_true, br_false, bd_eq, de_eq, mN_sI_, mK_sI_, mL_sI_, mI_sI_ap, mJ_sI_, mR_sI_, mN_sJ_, mK_sJ_, mL_sJ_, mI_sJ_, mJ_sJ_ap, mR_sJ_, mN_sR_, mK_sR_, mL_sR_, mI_sR_, mJ_sR_, mR_sR_ap, Nat.reduceEqDiff, Nat.reduceAdd, ↓reduceIte, and_true, true_and, and_false, false_and, or_true, true_or, or_false, false_or, not_true_eq_false, not_false_eq_true, i10, i01, ii01, ii02, ii03, ii04, ii05, ii12, ii13, ii14, ii15, ii20, ii21, ii23, ii24, ii25, ii30, ii31, ii32, ii34, ii35, ii40, ii41, ii42, ii43, ii45, ii50, ii51, ii52, ii53, ii54, bi_z, Option.some.injEq, reduceCtorEq, Nat.reduceLeDiff]
    · unfold itT
      simp only [f_X11_item, f_X11_item_b87, hMs, hM', k45, w, a1, a2, vX, nX, hd, e, nx_eq, ck_true, br_true, br_false, bd_eq, de_eq, mN_sI_, mK_sI_, mL_sI_, mI_sI_ap, mJ_sI_, mR_sI_, mN_sJ_, mK_sJ_, mL_sJ_, mI_sJ_, mJ_sJ_ap, mR_sJ_, mN_sR_, mK_sR_, mL_sR_, mI_sR_, mJ_sR_, mR_sR_ap, Nat.reduceEqDiff, Nat.reduceAdd, ↓reduceIte, and_true, true_and, and_false, false_and, or_true, true_or, or_false, false_or, not_true_eq_false, not_false_eq_true, i10, i01, ii01, ii02, ii03, ii04, ii05, ii12, ii13, ii14, ii15, ii20, ii21, ii23, ii24, ii25, ii30, ii31, ii32, ii34, ii35, ii40, ii41, ii42, ii43, ii45, ii50, ii51, ii52, ii53, ii54, bi_z, Option.some.injEq, reduceCtorEq, Nat.reduceLeDiff]
  · have w : mI m 50 46 = (3 : Int32) := w46
    have hd : mI m 77 X = -1 := hh
    have a1 : ((3 : Int32) < 2) = False := eq_false (by decide)
    have a2 : ((3 : Int32) ≤ 5) = True := eq_true (by decide)
    refine ⟨fun m' e => ?_, fun m' e hM' => ?_⟩
    · simp only [f_X11_item, f_X11_item_b87, hMs, k45, w, a1, a2, vX, nX, hd, e, nx_eq, ck_true, br_true, br_false, bd_eq, de_eq, mN_sI_, mK_sI_, mL_sI_, mI_sI_ap, mJ_sI_, mR_sI_, mN_sJ_, mK_sJ_, mL_sJ_, mI_sJ_, mJ_sJ_ap, mR_sJ_, mN_sR_, mK_sR_, mL_sR_, mI_sR_, mJ_sR_, mR_sR_ap, Nat.reduceEqDiff, Nat.reduceAdd, ↓reduceIte, and_true, true_and, and_false, false_and, or_true, true_or, or_false, false_or, not_true_eq_false, not_false_eq_true, i10, i01, ii01, ii02, ii03, ii04, ii05, ii12, ii13, ii14, ii15, ii20, ii21, ii23, ii24, ii25, ii30, ii31, ii32, ii34, ii35, ii40, ii41, ii42, ii43, ii45, ii50, ii51, ii52, ii53, ii54, bi_z, Option.some.injEq, reduceCtorEq, Nat.reduceLeDiff]
    · unfold itT
      have b1 : ((2 : Nat) = 1) = False := eq_false (by decide)
      have b2 : ((2 : Nat) = 4) = False := eq_false (by decide)
      simp only [f_X11_item, f_X11_item_b87, hMs, hM', k45, w, a1, a2, vX, nX, hd, e, b1, b2, nx_eq, ck_true, br_true, br_false, bd_eq, de_eq, mN_sI_, mK_sI_, mL_sI_, mI_sI_ap, mJ_sI_, mR_sI_, mN_sJ_, mK_sJ_, mL_sJ_, mI_sJ_, mJ_sJ_ap, mR_sJ_, mN_sR_, mK_sR_, mL_sR_, mI_sR_, mJ_sR_, mR_sR_ap, Nat.reduceEqDiff, Nat.reduceAdd, ↓reduceIte, and_true, true_and, and_false, false_and, or_true, true_or, or_false, false_or, not_true_eq_false, not_false_eq_true, i10, i01, ii01, ii02, ii03, ii04, ii05, ii12, ii13, ii14, ii15, ii20, ii21, ii23, ii24, ii25, ii30, ii31, ii32, ii34, ii35, ii40, ii41, ii42, ii43, ii45, ii50, ii51, ii52, ii53, ii54, bi_z, Option.some.injEq, reduceCtorEq, Nat.reduceLeDiff]
      rfl
  · have w : mI m 50 46 = (4 : Int32) := w46
    have hd : mI m 78 X = -1 := hh
    have a1 : ((4 : Int32) < 2) = False := eq_false (by decide)
    have a2 : ((4 : Int32) ≤ 5) = True := eq_true (by decide)
    refine ⟨fun m' e => ?_, fun m' e hM' => ?_⟩
    · simp only [f_X11_item, f_X11_item_b87, hMs, k45, w, a1, a2, vX, nX, hd, e, nx_eq, ck_true, br_true, br_false, bd_eq, de_eq, mN_sI_, mK_sI_, mL_sI_, mI_sI_ap, mJ_sI_, mR_sI_, mN_sJ_, mK_sJ_, mL_sJ_, mI_sJ_, mJ_sJ_ap, mR_sJ_, mN_sR_, mK_sR_, mL_sR_, mI_sR_, mJ_sR_, mR_sR_ap, Nat.reduceEqDiff, Nat.reduceAdd, ↓reduceIte, and_true, true_and, and_false, false_and, or_true, true_or, or_false, false_or, not_true_eq_false, not_false_eq_true, i10, i01, ii01, ii02, ii03, ii04, ii05, ii12, ii13, ii14, ii15, ii20, ii21, ii23, ii24, ii25, ii30, ii31, ii32, ii34, ii35, ii40, ii41, ii42, ii43, ii45, ii50, ii51, ii52, ii53, ii54, bi_z, Option.some.injEq, reduceCtorEq, Nat.reduceLeDiff]
    · unfold itT
      have b1 : ((3 : Nat) = 1) = False := eq_false (by decide)
      have b2 : ((3 : Nat) = 4) = False := eq_false (by decide)
      have b3 : ((3 : Nat) = 2) = False := eq_false (by decide)
      simp only [f_X11_item, f_X11_item_b87, hMs, hM', k45, w, a1, a2, vX, nX, hd, e, b1, b2, b3, nx_eq, ck_true, br_true, br_false, bd_eq, de_eq, mN_sI_, mK_sI_, mL_sI_, mI_sI_ap, mJ_sI_, mR_sI_, mN_sJ_, mK_sJ_, mL_sJ_, mI_sJ_, mJ_sJ_ap, mR_sJ_, mN_sR_, mK_sR_, mL_sR_, mI_sR_, mJ_sR_, mR_sR_ap, Nat.reduceEqDiff, Nat.reduceAdd, ↓reduceIte, and_true, true_and, and_false, false_and, or_true, true_or, or_false, false_or, not_true_eq_false, not_false_eq_true, i10, i01, ii01, ii02, ii03, ii04, ii05, ii12, ii13, ii14, ii15, ii20, ii21, ii23, ii24, ii25, ii30, ii31, ii32, ii34, ii35, ii40, ii41, ii42, ii43, ii45, ii50, ii51, ii52, ii53, ii54, bi_z, Option.some.injEq, reduceCtorEq, Nat.reduceLeDiff]
      rfl
  · have w : mI m 50 46 = (5 : Int32) := w46
    have hd : mI m 79 X = -1 := hh
    have a1 : ((5 : Int32) < 2) = False := eq_false (by decide)
    have a2 : ((5 : Int32) ≤ 5) = True := eq_true (by decide)
    refine ⟨fun m' e => ?_, fun m' e hM' => ?_⟩
    · simp only [f_X11_item, f_X11_item_b87, hMs, k45, w, a1, a2, vX, nX, hd, e, nx_eq, ck_true, br_true, br_false, bd_eq, de_eq, mN_sI_, mK_sI_, mL_sI_, mI_sI_ap, mJ_sI_, mR_sI_, mN_sJ_, mK_sJ_, mL_sJ_, mI_sJ_, mJ_sJ_ap, mR_sJ_, mN_sR_, mK_sR_, mL_sR_, mI_sR_, mJ_sR_, mR_sR_ap, Nat.reduceEqDiff, Nat.reduceAdd, ↓reduceIte, and_true, true_and, and_false, false_and, or_true, true_or, or_false, false_or, not_true_eq_false, not_false_eq_true, i10, i01, ii01, ii02, ii03, ii04, ii05, ii12, ii13, ii14, ii15, ii20, ii21, ii23, ii24, ii25, ii30, ii31, ii32, ii34, ii35, ii40, ii41, ii42, ii43, ii45, ii50, ii51, ii52, ii53, ii54, bi_z, Option.some.injEq, reduceCtorEq, Nat.reduceLeDiff]
    · unfold itT
      have b1 : ((4 : Nat) = 1) = False := eq_false (by decide)
      simp only [f_X11_item, f_X11_item_b87, hMs, hM', k45, w, a1, a2, vX, nX, hd, e, b1, nx_eq, ck_true, br_true, br_false, bd_eq, de_eq, mN_sI_, mK_sI_, mL_sI_, mI_sI_ap, mJ_sI_, mR_sI_, mN_sJ_, mK_sJ_, mL_sJ_, mI_sJ_, mJ_sJ_ap, mR_sJ_, mN_sR_, mK_sR_, mL_sR_, mI_sR_, mJ_sR_, mR_sR_ap, Nat.reduceEqDiff, Nat.reduceAdd, ↓reduceIte, and_true, true_and, and_false, false_and, or_true, true_or, or_false, false_or, not_true_eq_false, not_false_eq_true, i10, i01, ii01, ii02, ii03, ii04, ii05, ii12, ii13, ii14, ii15, ii20, ii21, ii23, ii24, ii25, ii30, ii31, ii32, ii34, ii35, ii40, ii41, ii42, ii43, ii45, ii50, ii51, ii52, ii53, ii54, bi_z, Option.some.injEq, reduceCtorEq, Nat.reduceLeDiff]
