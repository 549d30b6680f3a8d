/-- loft -/
theorem lt_c (F : Nat) {c : Mem} (hC : shC c) (L : Nat) (k3 : mI c 26 5 = nI L) (hL8 : L < 8) (x y : Int32) (hp : rgI 2000 x ∧ rgI 2000 y) : f_X10_loft F c 0 x y = some (nI L, sI (sI (sI c 27 L x) 28 L y) 26 5 (nI (L + 1))) := by
  have g1 : nI L < (8 : Int32) := nI_lt hL8 (by decide)
  simp only [f_X10_loft, e_X10_isPlace, f_X1_addLoft, hp, hC, k3, g1, vp_nI hL8 (by decide), nI_cl (show L < 2147483648 by omega), nI_1, nx_eq, ck_true, br_true, br_false, bd_eq, de_eq, mN_sI_, mK_sI_, mL_sI_, mI_sI_ap, mJ_sI_, mR_sI_, mN_sJ_, mK_sJ_, mL_sJ_, mI_sJ_, mJ_sJ_ap, mR_sJ_, mN_sR_, mK_sR_, mL_sR_, mI_sR_, mJ_sR_, mR_sR_ap, Nat.reduceEqDiff, Nat.reduceAdd, ↓reduceIte, and_true, true_and, and_false, false_and, or_true, true_or, or_false, false_or, not_true_eq_false, not_false_eq_true, i10, i01, ii01, ii02, ii03, ii04, ii05, ii12, ii13, ii14, ii15, ii20, ii21, ii23, ii24, ii25, ii30, ii31, ii32, ii34, ii35, ii40, ii41, ii42, ii43, ii45, ii50, ii51, ii52, ii53, ii54, bi_z, Option.some.injEq, reduceCtorEq, Nat.reduceLeDiff]
theorem lt_m (F : Nat) {m : Mem} (hM : shM m) (L : Nat) (k4 : mI m 50 3 = nI L) (hL8 : L < 8) (x y : Int32) (hp : rgI 2000 x ∧ rgI 2000 y) : f_X11_loft F m 50 x y = some (nI L, sI (sI (sI (sI m 50 2 0) 52 L x) 53 L y) 50 3 (nI (L + 1))) := by
  have g1 : ¬ nI L = (8 : Int32) := fun e => absurd ((nI_eq (by omega) (by decide)).mp (show nI L = nI 8 from e)) (by omega)
  simp only [f_X11_loft, e_X11_isPlace, hp, hM, k4, g1, vp_nI hL8 (by decide), nI_cl (show L < 2147483648 by omega), nI_1, nI_pred, nx_eq, ck_true, br_true, br_false, bd_eq, de_eq, mN_sI_, mK_sI_, mL_sI_, mI_sI_ap, mJ_sI_, mR_sI_, mN_sJ_, mK_sJ_, mL_sJ_, mI_sJ_, mJ_sJ_ap, mR_sJ_, mN_sR_, mK_sR_, mL_sR_, mI_sR_, mJ_sR_, mR_sR_ap, Nat.reduceEqDiff, Nat.reduceAdd, ↓reduceIte, and_true, true_and, and_false, false_and, or_true, true_or, or_false, false_or, not_true_eq_false, not_false_eq_true, i10, i01, ii01, ii02, ii03, ii04, ii05, ii12, ii13, ii14, ii15, ii20, ii21, ii23, ii24, ii25, ii30, ii31, ii32, ii34, ii35, ii40, ii41, ii42, ii43, ii45, ii50, ii51, ii52, ii53, ii54, bi_z, Option.some.injEq, reduceCtorEq, Nat.reduceLeDiff]
theorem Rclub.loft {c m c' m' : Mem} {L N : Nat} (h : Rclub c m L N) (hL : L < 8) {x y : Int32} (hx : rg 2000 x) (hy : rg 2000 y) (e5 : mI c' 26 5 = nI (L + 1)) (e3 : mI m' 50 3 = nI (L + 1)) (c6 : mI c' 26 6 = mI c 26 6) (m6 : mI m' 50 6 = mI m 50 6) (a27 : ∀ z, mI c' 27 z = if z = L then x else mI c 27 z) (a28 : ∀ z, mI c' 28 z = if z = L then y else mI c 28 z) (b52 : ∀ z, mI m' 52 z = if z = L then x else mI m 52 z) (b53 : ∀ z, mI m' 53 z = if z = L then y else mI m 53 z) (c29 : ∀ z, 29 ≤ z → z ≤ 31 → mI c' z = mI c z) (m54 : ∀ z, 54 ≤ z → z ≤ 56 → mI m' z = mI m z) : Rclub c' m' (L + 1) N := by
  obtain ⟨k1, k2, k3, k4, k5, k6, k7, k8, k9, k10, k11, k12, k13⟩ := h
  refine ⟨by omega, k2, e5, e3, c6.trans k5, m6.trans k6, ?_, ?_, ?_, ?_, ?_, fun i hi => ?_, fun b hb => ?_⟩
  · funext z; rw [a27, b52, k7]
  · funext z; rw [a28, b53, k8]
  · rw [c29 29 (by decide) (by decide), m54 54 (by decide) (by decide)]; exact k9
  · rw [c29 30 (by decide) (by decide), m54 55 (by decide) (by decide)]; exact k10
  · rw [c29 31 (by decide) (by decide), m54 56 (by decide) (by decide)]; exact k11
  · rw [b52, b53]
    by_cases e : i = L
    · rw [if_pos e, if_pos e]; exact ⟨hx, hy⟩
    · rw [if_neg e, if_neg e]; exact k12 i (by omega)
  · obtain ⟨l, l1, l2⟩ := k13 b hb
    exact ⟨l, by omega, by rw [m54 54 (by decide) (by decide)]; exact l2⟩
theorem loft_rel {c m : Mem} (h : Rel c m) {L N Fl : Nat} {fid S : Nat → Nat} (hcl : Rclub c m L N) (hfl : Rfls c m L N Fl fid S) (hL : L < 8) (x y : Int32) (hx : rg 2000 x) (hy : rg 2000 y) : Rel (sI (sI (sI c 27 L x) 28 L y) 26 5 (nI (L + 1))) (sI (sI (sI (sI m 50 2 0) 52 L x) 53 L y) 50 3 (nI (L + 1))) := by
  generalize hc' : sI (sI (sI c 27 L x) 28 L y) 26 5 (nI (L + 1)) = c'
  generalize hm' : sI (sI (sI (sI m 50 2 0) 52 L x) 53 L y) 50 3 (nI (L + 1)) = m'
  have oc : ∀ z, z < 26 ∨ 28 < z → mI c' z = mI c z := fun z hz => by rw [← hc', mI_sI_o (by omega), mI_sI_o (by omega), mI_sI_o (by omega)]
  have om : ∀ z, z ≠ 50 → z ≠ 52 → z ≠ 53 → mI m' z = mI m z := fun z h1 h2 h3 => by rw [← hm', mI_sI_o h1, mI_sI_o h3, mI_sI_o h2, mI_sI_o h1]
  have os : ∀ j, j ≠ 2 → j ≠ 3 → mI m' 50 j = mI m 50 j := fun j h1 h2 => by rw [← hm', mI_sI_j h2, mI_sI_o (by decide), mI_sI_o (by decide), mI_sI_j h1]
  obtain ⟨a1, a2, a3, a4, a5, ⟨n, a6⟩, ⟨nw, nl, a7⟩, -⟩ := h
  refine ⟨a1.cg (by rw [← hc']; rfl) (by rw [← hc']; rfl) (by rw [← hc']; rfl), a2.cg (by rw [← hm']; rfl) (by rw [← hm']; rfl) (by rw [← hm']; rfl), a3.cg (by rw [← hc']; rfl) (by rw [oc 0 (by omega)]), ?_, ?_, ⟨n, ?_⟩, ⟨nw, nl, ?_⟩, L + 1, N, ?_, Fl, fid, S, ?_⟩
  · exact a4.cg (fun x _ _ => oc x (by omega)) (os 41 (by decide) (by decide)) (os 42 (by decide) (by decide))
  · exact a5.cg (fun x _ _ => oc x (by omega)) (om 93 (by decide) (by decide) (by decide)) (os 62 (by decide) (by decide))
  · exact a6.cg (fun x _ _ => oc x (by omega)) (om 51 (by decide) (by decide) (by decide)) (os 1 (by decide) (by decide))
  · exact a7.cg (fun x _ _ => oc x (by omega)) (fun x _ _ => om x (by omega) (by omega) (by omega)) (os 31 (by decide) (by decide)) (os 32 (by decide) (by decide))
  · refine hcl.loft hL hx hy (by rw [← hc', mI_sI_e]) (by rw [← hm', mI_sI_e]) ?_ (os 6 (by decide) (by decide)) ?_ ?_ ?_ ?_ (fun z h1 h2 => oc z (by omega)) (fun z h1 h2 => om z (by omega) (by omega) (by omega))
    · rw [← hc', mI_sI_j (by decide), mI_sI_o (by decide), mI_sI_o (by decide)]
    · intro z; rw [← hc', mI_sI_o (by decide), mI_sI_o (by decide), mI_sI_ap]; simp only [true_and]
    · intro z; rw [← hc', mI_sI_o (by decide), mI_sI_ap, mI_sI_o (by decide)]; simp only [true_and]
    · intro z; rw [← hm', mI_sI_o (by decide), mI_sI_o (by decide), mI_sI_ap, mI_sI_o (by decide)]; simp only [true_and]
    · intro z; rw [← hm', mI_sI_o (by decide), mI_sI_ap, mI_sI_o (by decide), mI_sI_o (by decide)]; simp only [true_and]
  · exact hfl.cg (by omega) (Nat.le_refl _) (fun x _ => oc x (by omega)) (fun _ _ => by rw [← hc']; rfl) (fun x _ _ => om x (by omega) (by omega) (by omega)) (fun _ _ _ => by rw [← hm']; rfl) (by rw [← hc']; rfl) (by rw [← hc']; rfl) (by rw [← hc']; rfl) (by rw [← hc']; rfl) (by rw [oc 0 (by omega)]) (os 10 (by decide) (by decide))
theorem sim_loft (F : Nat) {c m : Mem} (h : Rel c m) (x y : Int32) : Sim (f_X10_loft F c 0 x y) (f_X11_loft F m 50 x y) := by
  have hC := h.1
  have hM := h.2.1
  obtain ⟨L, N, hcl, Fl, fid, S, hfl⟩ := h.2.2.2.2.2.2.2
  have k1 := hcl.1
  have k3 := hcl.2.2.1
  have k4 := hcl.2.2.2.1
  by_cases hp : rgI 2000 x ∧ rgI 2000 y
  · by_cases hL : L = 8
    · have g1 : ¬ nI L < (8 : Int32) := nI_nlt (a := L) (b := 8) (by omega) (by omega)
      have g2 : nI L = (8 : Int32) := by rw [hL]; rfl
      refine Sim.of (r := -1) (c' := c) (m' := sI m 50 2 0) ?_ ?_ (h.thr 0)
      · simp only [f_X10_loft, e_X10_isPlace, f_X1_addLoft, hp, hC, k3, g1, nx_eq, ck_true, br_true, br_false, bd_eq, de_eq, mN_sI_, mK_sI_, mL_sI_, mI_sI_ap, mJ_sI_, mR_sI_, mN_sJ_, mK_sJ_, mL_sJ_, mI_sJ_, mJ_sJ_ap, mR_sJ_, mN_sR_, mK_sR_, mL_sR_, mI_sR_, mJ_sR_, mR_sR_ap, Nat.reduceEqDiff, Nat.reduceAdd, ↓reduceIte, and_true, true_and, and_false, false_and, or_true, true_or, or_false, false_or, not_true_eq_false, not_false_eq_true, i10, i01, ii01, ii02, ii03, ii04, ii05, ii12, ii13, ii14, ii15, ii20, ii21, ii23, ii24, ii25, ii30, ii31, ii32, ii34, ii35, ii40, ii41, ii42, ii43, ii45, ii50, ii51, ii52, ii53, ii54, bi_z, Option.some.injEq, reduceCtorEq, Nat.reduceLeDiff]
      · simp only [f_X11_loft, hM, k4, g2, nx_eq, ck_true, br_true, br_false, bd_eq, de_eq, mN_sI_, mK_sI_, mL_sI_, mI_sI_ap, mJ_sI_, mR_sI_, mN_sJ_, mK_sJ_, mL_sJ_, mI_sJ_, mJ_sJ_ap, mR_sJ_, mN_sR_, mK_sR_, mL_sR_, mI_sR_, mJ_sR_, mR_sR_ap, Nat.reduceEqDiff, Nat.reduceAdd, ↓reduceIte, and_true, true_and, and_false, false_and, or_true, true_or, or_false, false_or, not_true_eq_false, not_false_eq_true, i10, i01, ii01, ii02, ii03, ii04, ii05, ii12, ii13, ii14, ii15, ii20, ii21, ii23, ii24, ii25, ii30, ii31, ii32, ii34, ii35, ii40, ii41, ii42, ii43, ii45, ii50, ii51, ii52, ii53, ii54, bi_z, Option.some.injEq, reduceCtorEq, Nat.reduceLeDiff]
    · exact Sim.of (lt_c F hC L k3 (by omega) x y hp) (lt_m F hM L k4 (by omega) x y hp) (loft_rel h hcl hfl (by omega) x y (rgI_rg (h := 2000) (by decide) hp.1) (rgI_rg (h := 2000) (by decide) hp.2))
  · refine Sim.of (r := -1) (c' := c) (m' := sI m 50 2 0) ?_ ?_ (h.thr 0)
    · simp only [f_X10_loft, e_X10_isPlace, hp, nx_eq, ck_true, br_true, br_false, bd_eq, de_eq, mN_sI_, mK_sI_, mL_sI_, mI_sI_ap, mJ_sI_, mR_sI_, mN_sJ_, mK_sJ_, mL_sJ_, mI_sJ_, mJ_sJ_ap, mR_sJ_, mN_sR_, mK_sR_, mL_sR_, mI_sR_, mJ_sR_, mR_sR_ap, Nat.reduceEqDiff, Nat.reduceAdd, ↓reduceIte, and_true, true_and, and_false, false_and, or_true, true_or, or_false, false_or, not_true_eq_false, not_false_eq_true, i10, i01, ii01, ii02, ii03, ii04, ii05, ii12, ii13, ii14, ii15, ii20, ii21, ii23, ii24, ii25, ii30, ii31, ii32, ii34, ii35, ii40, ii41, ii42, ii43, ii45, ii50, ii51, ii52, ii53, ii54, bi_z, Option.some.injEq, reduceCtorEq, Nat.reduceLeDiff]
    · by_cases hL : nI L = 8
      · simp only [f_X11_loft, hM, k4, hL, nx_eq, ck_true, br_true, br_false, bd_eq, de_eq, mN_sI_, mK_sI_, mL_sI_, mI_sI_ap, mJ_sI_, mR_sI_, mN_sJ_, mK_sJ_, mL_sJ_, mI_sJ_, mJ_sJ_ap, mR_sJ_, mN_sR_, mK_sR_, mL_sR_, mI_sR_, mJ_sR_, mR_sR_ap, Nat.reduceEqDiff, Nat.reduceAdd, ↓reduceIte, and_true, true_and, and_false, false_and, or_true, true_or, or_false, false_or, not_true_eq_false, not_false_eq_true, i10, i01, ii01, ii02, ii03, ii04, ii05, ii12, ii13, ii14, ii15, ii20, ii21, ii23, ii24, ii25, ii30, ii31, ii32, ii34, ii35, ii40, ii41, ii42, ii43, ii45, ii50, ii51, ii52, ii53, ii54, bi_z, Option.some.injEq, reduceCtorEq, Nat.reduceLeDiff]
      · simp only [f_X11_loft, e_X11_isPlace, hp, hM, k4, hL, nx_eq, ck_true, br_true, br_false, bd_eq, de_eq, mN_sI_, mK_sI_, mL_sI_, mI_sI_ap, mJ_sI_, mR_sI_, mN_sJ_, mK_sJ_, mL_sJ_, mI_sJ_, mJ_sJ_ap, mR_sJ_, mN_sR_, mK_sR_, mL_sR_, mI_sR_, mJ_sR_, mR_sR_ap, Nat.reduceEqDiff, Nat.reduceAdd, ↓reduceIte, and_true, true_and, and_false, false_and, or_true, true_or, or_false, false_or, not_true_eq_false, not_false_eq_true, i10, i01, ii01, ii02, ii03, ii04, ii05, ii12, ii13, ii14, ii15, ii20, ii21, ii23, ii24, ii25, ii30, ii31, ii32, ii34, ii35, ii40, ii41, ii42, ii43, ii45, ii50, ii51, ii52, ii53, ii54, bi_z, Option.some.injEq, reduceCtorEq, Nat.reduceLeDiff]
