theorem shM.cg {m m' : Mem} (h : shM m) (hK : mK m' = mK m) (hL : mL m' = mL m) (hR : mR m' = mR m) : shM m' := by
  unfold shM at h ⊢
  rw [hK, hL, hR]
  exact h
theorem shC.cg {m m' : Mem} (h : shC m) (hK : mK m' = mK m) (hL : mL m' = mL m) (hR : mR m' = mR m) : shC m' := by
  unfold shC at h ⊢
  rw [hK, hL, hR]
  exact h
/-- nothing that the relation speaks of has changed -/
theorem Rel.cg {c m c' m' : Mem} (h : Rel c m) (hc : ∀ x, (1 ≤ x ∧ x ≤ 6) ∨ (17 ≤ x ∧ x ≤ 36) ∨ 97 ≤ x → mI c' x = mI c x) (hj : ∀ x, 97 ≤ x → mJ c' x = mJ c x) (h5 : mI c' 0 5 = mI c 0 5) (hK : mK c' = mK c) (hL : mL c' = mL c) (hR : mR c' = mR c) (hN : mN c' = mN c)
    (hm : ∀ x, (51 ≤ x ∧ x ≤ 83) ∨ x = 93 → mI m' x = mI m x) (hmj : ∀ x, 75 ≤ x → x ≤ 76 → mJ m' x = mJ m x) (hs : ∀ j, j = 1 ∨ j = 3 ∨ j = 6 ∨ j = 10 ∨ j = 31 ∨ j = 32 ∨ j = 41 ∨ j = 42 ∨ j = 62 → mI m' 50 j = mI m 50 j) (hK2 : mK m' = mK m) (hL2 : mL m' = mL m) (hR2 : mR m' = mR m) : Rel c' m' := by
  obtain ⟨a1, a2, a3, a4, a5, ⟨n, a6⟩, ⟨nw, nl, a7⟩, L, N, a8, Fl, fid, S, a9⟩ := h
  refine ⟨a1.cg hK hL hR, a2.cg hK2 hL2 hR2, a3.cg hN h5, ?_, ?_, ⟨n, ?_⟩, ⟨nw, nl, ?_⟩, L, N, ?_, Fl, fid, S, ?_⟩
  · exact a4.cg (fun x _ _ => hc x (by omega)) (hs 41 (by simp)) (hs 42 (by simp))
  · exact a5.cg (fun x _ _ => hc x (by omega)) (hm 93 (by simp)) (hs 62 (by simp))
  · exact a6.cg (fun x _ _ => hc x (by omega)) (hm 51 (by simp)) (hs 1 (by simp))
  · exact a7.cg (fun x _ _ => hc x (by omega)) (fun x _ _ => hm x (by omega)) (hs 31 (by simp)) (hs 32 (by simp))
  · exact a8.cg (fun x _ _ => hc x (by omega)) (fun x _ _ => hm x (by omega)) (hs 3 (by simp)) (hs 6 (by simp))
  · exact a9.cg (Nat.le_refl _) (Nat.le_refl _) (fun x _ => hc x (by omega)) hj (fun x _ _ => hm x (by omega)) hmj hK hL hR hN h5 (hs 10 (by simp))
theorem Rel.thr {c m : Mem} (h : Rel c m) (v : Int32) : Rel c (sI m 50 2 v) :=
  h.cg (fun _ _ => rfl) (fun _ _ => rfl) rfl rfl rfl rfl rfl (fun x hx => mI_sI_o (by omega)) (fun _ _ _ => rfl) (fun j hj => mI_sI_j (by omega)) rfl rfl rfl
theorem Sim.of {β : Type} {x y : Option (β × Mem)} {r : β} {c' m' : Mem} (hx : x = some (r, c')) (hy : y = some (r, m')) (h : Rel c' m') : Sim x y := ⟨r, c', m', hx, hy, h⟩
theorem nI_8 {L : Nat} (h : L ≤ 8) : (nI L = 8) = (L = 8) := propext ⟨fun e => (nI_eq (by omega) (by decide)).mp (show nI L = nI 8 from e), fun e => by rw [e]; rfl⟩
theorem nI_ltk {n : Nat} (k : Nat) (h : n < 2147483648) (hk : k < 2147483648) : (nI n < nI k) = (n < k) := propext (nI_ltI h hk)
theorem nI_lek {n : Nat} (k : Nat) (h : n < 2147483648) (hk : k < 2147483648) : (nI n ≤ nI k) = (n ≤ k) := propext (nI_leI h hk)
theorem nI_eqk {n : Nat} (k : Nat) (h : n < 2147483648) (hk : k < 2147483648) : (nI n = nI k) = (n = k) := propext (nI_eq h hk)
theorem nI_cl {n : Nat} (h : n < 2147483648) : (nI n).toNatClampNeg = n := nI_clamp h
theorem rgI_rg {h : Nat} {x : Int32} (hh : h < 2147483648) (hx : rgI (nI h) x) : rg h x := by
  obtain ⟨v, h1, h2⟩ := nI_of2 (nI_toInt hh) hx.1 (Int32.not_lt.mp hx.2)
  exact ⟨v, h1, h2⟩
/-- fault -/
theorem sim_fault (F : Nat) {c m : Mem} (h : Rel c m) (p : Int32) : Sim (f_X10_fault F c 0 p) (f_X11_fault F m 50 p) := by
  have hC := h.1
  have hM := h.2.1
  obtain ⟨e1, e2, e3⟩ := h.2.2.2.1
  by_cases h0 : p = 0
  · refine Sim.of (r := mI c 3 2) (c' := c) (m' := sI m 50 2 0) ?_ ?_ (h.thr 0)
    · simp only [f_X10_fault, f_X6_faultKind, h0, hC, nx_eq, ck_true, br_true, br_false, bd_eq, de_eq, mN_sI_, mK_sI_, mL_sI_, mI_sI_ap, mJ_sI_, mR_sI_, mN_sJ_, mK_sJ_, mL_sJ_, mI_sJ_, mJ_sJ_ap, mR_sJ_, mN_sR_, mK_sR_, mL_sR_, mI_sR_, mJ_sR_, mR_sR_ap, Nat.reduceEqDiff, Nat.reduceAdd, ↓reduceIte, and_true, true_and, and_false, false_and, or_true, true_or, or_false, false_or, not_true_eq_false, not_false_eq_true, i10, i01, ii01, ii02, ii03, ii04, ii05, ii12, ii13, ii14, ii15, ii20, ii21, ii23, ii24, ii25, ii30, ii31, ii32, ii34, ii35, ii40, ii41, ii42, ii43, ii45, ii50, ii51, ii52, ii53, ii54, bi_z, Option.some.injEq, reduceCtorEq, Nat.reduceLeDiff]
    · simp only [f_X11_fault, h0, hM, e1, nx_eq, ck_true, br_true, br_false, bd_eq, de_eq, mN_sI_, mK_sI_, mL_sI_, mI_sI_ap, mJ_sI_, mR_sI_, mN_sJ_, mK_sJ_, mL_sJ_, mI_sJ_, mJ_sJ_ap, mR_sJ_, mN_sR_, mK_sR_, mL_sR_, mI_sR_, mJ_sR_, mR_sR_ap, Nat.reduceEqDiff, Nat.reduceAdd, ↓reduceIte, and_true, true_and, and_false, false_and, or_true, true_or, or_false, false_or, not_true_eq_false, not_false_eq_true, i10, i01, ii01, ii02, ii03, ii04, ii05, ii12, ii13, ii14, ii15, ii20, ii21, ii23, ii24, ii25, ii30, ii31, ii32, ii34, ii35, ii40, ii41, ii42, ii43, ii45, ii50, ii51, ii52, ii53, ii54, bi_z, Option.some.injEq, reduceCtorEq, Nat.reduceLeDiff]
  · by_cases h1 : p = 1
    · by_cases hz : mI m 50 41 = 0
      · refine Sim.of (r := -1) (c' := c) (m' := sI m 50 2 0) ?_ ?_ (h.thr 0)
        · simp only [f_X10_fault, f_X6_faultPlace, h0, h1, hC, e1, hz, nx_eq, ck_true, br_true, br_false, bd_eq, de_eq, mN_sI_, mK_sI_, mL_sI_, mI_sI_ap, mJ_sI_, mR_sI_, mN_sJ_, mK_sJ_, mL_sJ_, mI_sJ_, mJ_sJ_ap, mR_sJ_, mN_sR_, mK_sR_, mL_sR_, mI_sR_, mJ_sR_, mR_sR_ap, Nat.reduceEqDiff, Nat.reduceAdd, ↓reduceIte, and_true, true_and, and_false, false_and, or_true, true_or, or_false, false_or, not_true_eq_false, not_false_eq_true, i10, i01, ii01, ii02, ii03, ii04, ii05, ii12, ii13, ii14, ii15, ii20, ii21, ii23, ii24, ii25, ii30, ii31, ii32, ii34, ii35, ii40, ii41, ii42, ii43, ii45, ii50, ii51, ii52, ii53, ii54, bi_z, Option.some.injEq, reduceCtorEq, Nat.reduceLeDiff]
        · simp only [f_X11_fault, h0, h1, hM, e2 hz, nx_eq, ck_true, br_true, br_false, bd_eq, de_eq, mN_sI_, mK_sI_, mL_sI_, mI_sI_ap, mJ_sI_, mR_sI_, mN_sJ_, mK_sJ_, mL_sJ_, mI_sJ_, mJ_sJ_ap, mR_sJ_, mN_sR_, mK_sR_, mL_sR_, mI_sR_, mJ_sR_, mR_sR_ap, Nat.reduceEqDiff, Nat.reduceAdd, ↓reduceIte, and_true, true_and, and_false, false_and, or_true, true_or, or_false, false_or, not_true_eq_false, not_false_eq_true, i10, i01, ii01, ii02, ii03, ii04, ii05, ii12, ii13, ii14, ii15, ii20, ii21, ii23, ii24, ii25, ii30, ii31, ii32, ii34, ii35, ii40, ii41, ii42, ii43, ii45, ii50, ii51, ii52, ii53, ii54, bi_z, Option.some.injEq, reduceCtorEq, Nat.reduceLeDiff]
      · obtain ⟨u, z, b1, b2, b3, b4, b5⟩ := e3 hz
        have g1 : ¬ nI z ≤ nI u := by rw [nI_lek u (by omega) (by omega)]; omega
        refine Sim.of (r := mI m 50 42) (c' := c) (m' := sI m 50 2 0) ?_ ?_ (h.thr 0)
        · simp only [f_X10_fault, f_X6_faultPlace, f_X9_place, h0, h1, hC, e1, hz, b3, b4, g1, vp_nI (show u < 801 by omega) (by decide), nI_cl (show u < 2147483648 by omega), b5, nx_eq, ck_true, br_true, br_false, bd_eq, de_eq, mN_sI_, mK_sI_, mL_sI_, mI_sI_ap, mJ_sI_, mR_sI_, mN_sJ_, mK_sJ_, mL_sJ_, mI_sJ_, mJ_sJ_ap, mR_sJ_, mN_sR_, mK_sR_, mL_sR_, mI_sR_, mJ_sR_, mR_sR_ap, Nat.reduceEqDiff, Nat.reduceAdd, ↓reduceIte, and_true, true_and, and_false, false_and, or_true, true_or, or_false, false_or, not_true_eq_false, not_false_eq_true, i10, i01, ii01, ii02, ii03, ii04, ii05, ii12, ii13, ii14, ii15, ii20, ii21, ii23, ii24, ii25, ii30, ii31, ii32, ii34, ii35, ii40, ii41, ii42, ii43, ii45, ii50, ii51, ii52, ii53, ii54, bi_z, Option.some.injEq, reduceCtorEq, Nat.reduceLeDiff]
        · simp only [f_X11_fault, h0, h1, hM, nx_eq, ck_true, br_true, br_false, bd_eq, de_eq, mN_sI_, mK_sI_, mL_sI_, mI_sI_ap, mJ_sI_, mR_sI_, mN_sJ_, mK_sJ_, mL_sJ_, mI_sJ_, mJ_sJ_ap, mR_sJ_, mN_sR_, mK_sR_, mL_sR_, mI_sR_, mJ_sR_, mR_sR_ap, Nat.reduceEqDiff, Nat.reduceAdd, ↓reduceIte, and_true, true_and, and_false, false_and, or_true, true_or, or_false, false_or, not_true_eq_false, not_false_eq_true, i10, i01, ii01, ii02, ii03, ii04, ii05, ii12, ii13, ii14, ii15, ii20, ii21, ii23, ii24, ii25, ii30, ii31, ii32, ii34, ii35, ii40, ii41, ii42, ii43, ii45, ii50, ii51, ii52, ii53, ii54, bi_z, Option.some.injEq, reduceCtorEq, Nat.reduceLeDiff]
    · refine Sim.of (r := -1) (c' := c) (m' := sI m 50 2 0) ?_ ?_ (h.thr 0)
      · simp only [f_X10_fault, h0, h1, nx_eq, ck_true, br_true, br_false, bd_eq, de_eq, mN_sI_, mK_sI_, mL_sI_, mI_sI_ap, mJ_sI_, mR_sI_, mN_sJ_, mK_sJ_, mL_sJ_, mI_sJ_, mJ_sJ_ap, mR_sJ_, mN_sR_, mK_sR_, mL_sR_, mI_sR_, mJ_sR_, mR_sR_ap, Nat.reduceEqDiff, Nat.reduceAdd, ↓reduceIte, and_true, true_and, and_false, false_and, or_true, true_or, or_false, false_or, not_true_eq_false, not_false_eq_true, i10, i01, ii01, ii02, ii03, ii04, ii05, ii12, ii13, ii14, ii15, ii20, ii21, ii23, ii24, ii25, ii30, ii31, ii32, ii34, ii35, ii40, ii41, ii42, ii43, ii45, ii50, ii51, ii52, ii53, ii54, bi_z, Option.some.injEq, reduceCtorEq, Nat.reduceLeDiff]
      · simp only [f_X11_fault, h0, h1, hM, nx_eq, ck_true, br_true, br_false, bd_eq, de_eq, mN_sI_, mK_sI_, mL_sI_, mI_sI_ap, mJ_sI_, mR_sI_, mN_sJ_, mK_sJ_, mL_sJ_, mI_sJ_, mJ_sJ_ap, mR_sJ_, mN_sR_, mK_sR_, mL_sR_, mI_sR_, mJ_sR_, mR_sR_ap, Nat.reduceEqDiff, Nat.reduceAdd, ↓reduceIte, and_true, true_and, and_false, false_and, or_true, true_or, or_false, false_or, not_true_eq_false, not_false_eq_true, i10, i01, ii01, ii02, ii03, ii04, ii05, ii12, ii13, ii14, ii15, ii20, ii21, ii23, ii24, ii25, ii30, ii31, ii32, ii34, ii35, ii40, ii41, ii42, ii43, ii45, ii50, ii51, ii52, ii53, ii54, bi_z, Option.some.injEq, reduceCtorEq, Nat.reduceLeDiff]
