/-- protest -/
theorem sim_protest (F : Nat) {c m : Mem} (h : Rel c m) (p1 p2 p3 : Int32) : Sim (f_X10_protest F c 0 p1 p2 p3) (f_X11_protest F m 50 p1 p2 p3) := by
  have hC := h.1
  have hM := h.2.1
  obtain ⟨L, N, hcl, Fl, fid, S, hfl⟩ := h.2.2.2.2.2.2.2
  have k2 := hcl.2.1
  have k5 := hcl.2.2.2.2.1
  have k6 := hcl.2.2.2.2.2.1
  have f1 := hfl.1
  have f3 := hfl.2.2.1
  rcases ix_or p1 (n := Fl) (by omega) with ⟨f, hf, rfl⟩ | hf
  · have eA := e_fA_in F hC hfl hf
    rcases ix_or p2 (n := N) (by omega) with ⟨b, hb, rfl⟩ | hb
    · by_cases hd : rgI 400 p3
      · obtain ⟨d, hd4, rfl⟩ := rgI_rg (h := 400) (by decide) hd
        obtain ⟨-, hsf, -, -, -, -, hday, -⟩ := hfl.2.2.2.1 f hf
        have hb24 : b < 24 := by omega
        have g1 : ¬ nI b < 0 := nI_pos (by omega)
        have g2 : ¬ (24 : Int32) ≤ nI b := nI_ge (b := 24) (by omega) (by decide)
        have hD := dayStep ((hday b hb24).1) hd4
        have v1 : vp_in (nI (24 * f + b)) 144 := vp_nI (by omega) (by decide)
        have n1 : (nI (24 * f + b)).toNatClampNeg = 24 * f + b := nI_cl (by omega)
        have ec : f_X10_protest F c 0 (nI f) (nI b) (nI d) = some (1, sI c (fid f + 10) b (if nI d < mI c (fid f + 10) b then nI d else mI c (fid f + 10) b)) := by
          simp only [f_X10_protest, f_X2_addProtest, eA, e_X1_hasBird, e_X10_isDay, k5, bx_in hb (show N < 2147483648 by omega), hd, nI_ge hb (show N < 2147483648 by omega), hC, hsf, g1, g2, vp_nI hb24 (by decide), nI_cl (show b < 2147483648 by omega), nx_eq, ck_true, br_true, br_false, bd_eq, de_eq, mN_sI_, mK_sI_, mL_sI_, mI_sI_ap, mJ_sI_, mR_sI_, mN_sJ_, mK_sJ_, mL_sJ_, mI_sJ_, mJ_sJ_ap, mR_sJ_, mN_sR_, mK_sR_, mL_sR_, mI_sR_, mJ_sR_, mR_sR_ap, Nat.reduceEqDiff, Nat.reduceAdd, ↓reduceIte, and_true, true_and, and_false, false_and, or_true, true_or, or_false, false_or, not_true_eq_false, not_false_eq_true, i10, i01, bi_z, Option.some.injEq, reduceCtorEq, Nat.reduceLeDiff]
        refine Sim.of ec (m' := sI (sI m 50 2 0) 71 (24 * f + b) (dw (mI m 71 (24 * f + b)) d)) ?_ (h.day hcl hfl hf hb24 (by omega) hD rfl rfl)
        by_cases y0 : mI m 71 (24 * f + b) = 0
        · simp only [f_X11_protest, f_X11_tells, f_X11_tells_b55, f_X11_tells_b66, e_X11_isFlight, e_X11_isBird, e_X11_isDay, k6, f3, bx_in hb (show N < 2147483648 by omega), bx_in hf (show Fl < 2147483648 by omega), hd, hM, i24, v1, n1, y0, dw, nI_1, bz, nx_eq, ck_true, br_true, br_false, bd_eq, de_eq, mN_sI_, mK_sI_, mL_sI_, mI_sI_ap, mJ_sI_, mR_sI_, mN_sJ_, mK_sJ_, mL_sJ_, mI_sJ_, mJ_sJ_ap, mR_sJ_, mN_sR_, mK_sR_, mL_sR_, mI_sR_, mJ_sR_, mR_sR_ap, Nat.reduceEqDiff, Nat.reduceAdd, ↓reduceIte, and_true, true_and, and_false, false_and, or_true, true_or, or_false, false_or, not_true_eq_false, not_false_eq_true, i10, i01, bi_z, Option.some.injEq, reduceCtorEq, Nat.reduceLeDiff]
        · by_cases y1 : mI m 71 (24 * f + b) ≤ nI (d + 1)
          · simp only [f_X11_protest, f_X11_tells, f_X11_tells_b55, f_X11_tells_b66, e_X11_isFlight, e_X11_isBird, e_X11_isDay, k6, f3, bx_in hb (show N < 2147483648 by omega), bx_in hf (show Fl < 2147483648 by omega), hd, hM, i24, v1, n1, y0, y1, dw, nI_1, bz, nx_eq, ck_true, br_true, br_false, bd_eq, de_eq, mN_sI_, mK_sI_, mL_sI_, mI_sI_ap, mJ_sI_, mR_sI_, mN_sJ_, mK_sJ_, mL_sJ_, mI_sJ_, mJ_sJ_ap, mR_sJ_, mN_sR_, mK_sR_, mL_sR_, mI_sR_, mJ_sR_, mR_sR_ap, Nat.reduceEqDiff, Nat.reduceAdd, ↓reduceIte, and_true, true_and, and_false, false_and, or_true, true_or, or_false, false_or, not_true_eq_false, not_false_eq_true, i10, i01, bi_z, Option.some.injEq, reduceCtorEq, Nat.reduceLeDiff]
          · simp only [f_X11_protest, f_X11_tells, f_X11_tells_b55, f_X11_tells_b66, e_X11_isFlight, e_X11_isBird, e_X11_isDay, k6, f3, bx_in hb (show N < 2147483648 by omega), bx_in hf (show Fl < 2147483648 by omega), hd, hM, i24, v1, n1, y0, y1, dw, nI_1, bz, nx_eq, ck_true, br_true, br_false, bd_eq, de_eq, mN_sI_, mK_sI_, mL_sI_, mI_sI_ap, mJ_sI_, mR_sI_, mN_sJ_, mK_sJ_, mL_sJ_, mI_sJ_, mJ_sJ_ap, mR_sJ_, mN_sR_, mK_sR_, mL_sR_, mI_sR_, mJ_sR_, mR_sR_ap, Nat.reduceEqDiff, Nat.reduceAdd, ↓reduceIte, and_true, true_and, and_false, false_and, or_true, true_or, or_false, false_or, not_true_eq_false, not_false_eq_true, i10, i01, bi_z, Option.some.injEq, reduceCtorEq, Nat.reduceLeDiff]
      · refine Sim.of (r := 0) (c' := c) (m' := sI m 50 2 0) ?_ ?_ (h.thr 0)
        · simp only [f_X10_protest, eA, e_X1_hasBird, e_X10_isDay, k5, bx_in hb (show N < 2147483648 by omega), hd, hC, nx_eq, ck_true, br_true, br_false, bd_eq, de_eq, mN_sI_, mK_sI_, mL_sI_, mI_sI_ap, mJ_sI_, mR_sI_, mN_sJ_, mK_sJ_, mL_sJ_, mI_sJ_, mJ_sJ_ap, mR_sJ_, mN_sR_, mK_sR_, mL_sR_, mI_sR_, mJ_sR_, mR_sR_ap, Nat.reduceEqDiff, Nat.reduceAdd, ↓reduceIte, and_true, true_and, and_false, false_and, or_true, true_or, or_false, false_or, not_true_eq_false, not_false_eq_true, i10, i01, bi_z, Option.some.injEq, reduceCtorEq, Nat.reduceLeDiff]
        · simp only [f_X11_protest, f_X11_tells, e_X11_isFlight, e_X11_isBird, e_X11_isDay, k6, f3, bx_in hb (show N < 2147483648 by omega), bx_in hf (show Fl < 2147483648 by omega), hd, hM, bz, nx_eq, ck_true, br_true, br_false, bd_eq, de_eq, mN_sI_, mK_sI_, mL_sI_, mI_sI_ap, mJ_sI_, mR_sI_, mN_sJ_, mK_sJ_, mL_sJ_, mI_sJ_, mJ_sJ_ap, mR_sJ_, mN_sR_, mK_sR_, mL_sR_, mI_sR_, mJ_sR_, mR_sR_ap, Nat.reduceEqDiff, Nat.reduceAdd, ↓reduceIte, and_true, true_and, and_false, false_and, or_true, true_or, or_false, false_or, not_true_eq_false, not_false_eq_true, i10, i01, bi_z, Option.some.injEq, reduceCtorEq, Nat.reduceLeDiff]
    · refine Sim.of (r := 0) (c' := c) (m' := sI m 50 2 0) ?_ ?_ (h.thr 0)
      · simp only [f_X10_protest, eA, e_X1_hasBird, k5, bx_out hb, hC, nx_eq, ck_true, br_true, br_false, bd_eq, de_eq, mN_sI_, mK_sI_, mL_sI_, mI_sI_ap, mJ_sI_, mR_sI_, mN_sJ_, mK_sJ_, mL_sJ_, mI_sJ_, mJ_sJ_ap, mR_sJ_, mN_sR_, mK_sR_, mL_sR_, mI_sR_, mJ_sR_, mR_sR_ap, Nat.reduceEqDiff, Nat.reduceAdd, ↓reduceIte, and_true, true_and, and_false, false_and, or_true, true_or, or_false, false_or, not_true_eq_false, not_false_eq_true, i10, i01, bi_z, Option.some.injEq, reduceCtorEq, Nat.reduceLeDiff]
      · simp only [f_X11_protest, f_X11_tells, e_X11_isFlight, e_X11_isBird, k6, f3, bx_out hb, bx_in hf (show Fl < 2147483648 by omega), hM, bz, nx_eq, ck_true, br_true, br_false, bd_eq, de_eq, mN_sI_, mK_sI_, mL_sI_, mI_sI_ap, mJ_sI_, mR_sI_, mN_sJ_, mK_sJ_, mL_sJ_, mI_sJ_, mJ_sJ_ap, mR_sJ_, mN_sR_, mK_sR_, mL_sR_, mI_sR_, mJ_sR_, mR_sR_ap, Nat.reduceEqDiff, Nat.reduceAdd, ↓reduceIte, and_true, true_and, and_false, false_and, or_true, true_or, or_false, false_or, not_true_eq_false, not_false_eq_true, i10, i01, bi_z, Option.some.injEq, reduceCtorEq, Nat.reduceLeDiff]
  · refine Sim.of (r := 0) (c' := c) (m' := sI m 50 2 0) ?_ ?_ (h.thr 0)
    · simp only [f_X10_protest, e_fA_out F hC hfl hf, hC, nx_eq, ck_true, br_true, br_false, bd_eq, de_eq, mN_sI_, mK_sI_, mL_sI_, mI_sI_ap, mJ_sI_, mR_sI_, mN_sJ_, mK_sJ_, mL_sJ_, mI_sJ_, mJ_sJ_ap, mR_sJ_, mN_sR_, mK_sR_, mL_sR_, mI_sR_, mJ_sR_, mR_sR_ap, Nat.reduceEqDiff, Nat.reduceAdd, ↓reduceIte, and_true, true_and, and_false, false_and, or_true, true_or, or_false, false_or, not_true_eq_false, not_false_eq_true, i10, i01, bi_z, Option.some.injEq, reduceCtorEq, Nat.reduceLeDiff]
    · simp only [f_X11_protest, f_X11_tells, e_X11_isFlight, f3, bx_out hf, hM, bz, nx_eq, ck_true, br_true, br_false, bd_eq, de_eq, mN_sI_, mK_sI_, mL_sI_, mI_sI_ap, mJ_sI_, mR_sI_, mN_sJ_, mK_sJ_, mL_sJ_, mI_sJ_, mJ_sJ_ap, mR_sJ_, mN_sR_, mK_sR_, mL_sR_, mI_sR_, mJ_sR_, mR_sR_ap, Nat.reduceEqDiff, Nat.reduceAdd, ↓reduceIte, and_true, true_and, and_false, false_and, or_true, true_or, or_false, false_or, not_true_eq_false, not_false_eq_true, i10, i01, bi_z, Option.some.injEq, reduceCtorEq, Nat.reduceLeDiff]
/-- withdraw -/
theorem sim_withdraw (F : Nat) {c m : Mem} (h : Rel c m) (p1 p2 p3 : Int32) : Sim (f_X10_withdraw F c 0 p1 p2 p3) (f_X11_withdraw F m 50 p1 p2 p3) := by
  have hC := h.1
  have hM := h.2.1
  obtain ⟨L, N, hcl, Fl, fid, S, hfl⟩ := h.2.2.2.2.2.2.2
  have k2 := hcl.2.1
  have k5 := hcl.2.2.2.2.1
  have k6 := hcl.2.2.2.2.2.1
  have f1 := hfl.1
  have f3 := hfl.2.2.1
  rcases ix_or p1 (n := Fl) (by omega) with ⟨f, hf, rfl⟩ | hf
  · have eA := e_fA_in F hC hfl hf
    rcases ix_or p2 (n := N) (by omega) with ⟨b, hb, rfl⟩ | hb
    · by_cases hd : rgI 400 p3
      · obtain ⟨d, hd4, rfl⟩ := rgI_rg (h := 400) (by decide) hd
        obtain ⟨-, hsf, -, -, -, -, hday, -⟩ := hfl.2.2.2.1 f hf
        have hb24 : b < 24 := by omega
        have g1 : ¬ nI b < 0 := nI_pos (by omega)
        have g2 : ¬ (24 : Int32) ≤ nI b := nI_ge (b := 24) (by omega) (by decide)
        have hD := dayStep ((hday b hb24).2) hd4
        have v1 : vp_in (nI (24 * f + b)) 144 := vp_nI (by omega) (by decide)
        have n1 : (nI (24 * f + b)).toNatClampNeg = 24 * f + b := nI_cl (by omega)
        have ec : f_X10_withdraw F c 0 (nI f) (nI b) (nI d) = some (1, sI c (fid f + 11) b (if nI d < mI c (fid f + 11) b then nI d else mI c (fid f + 11) b)) := by
          simp only [f_X10_withdraw, f_X2_addWithdrawal, eA, e_X1_hasBird, e_X10_isDay, k5, bx_in hb (show N < 2147483648 by omega), hd, nI_ge hb (show N < 2147483648 by omega), hC, hsf, g1, g2, vp_nI hb24 (by decide), nI_cl (show b < 2147483648 by omega), nx_eq, ck_true, br_true, br_false, bd_eq, de_eq, mN_sI_, mK_sI_, mL_sI_, mI_sI_ap, mJ_sI_, mR_sI_, mN_sJ_, mK_sJ_, mL_sJ_, mI_sJ_, mJ_sJ_ap, mR_sJ_, mN_sR_, mK_sR_, mL_sR_, mI_sR_, mJ_sR_, mR_sR_ap, Nat.reduceEqDiff, Nat.reduceAdd, ↓reduceIte, and_true, true_and, and_false, false_and, or_true, true_or, or_false, false_or, not_true_eq_false, not_false_eq_true, i10, i01, bi_z, Option.some.injEq, reduceCtorEq, Nat.reduceLeDiff]
        refine Sim.of ec (m' := sI (sI m 50 2 0) 72 (24 * f + b) (dw (mI m 72 (24 * f + b)) d)) ?_ (h.day hcl hfl hf hb24 (by omega) hD rfl rfl)
        by_cases y0 : mI m 72 (24 * f + b) = 0
        · simp only [f_X11_withdraw, f_X11_tells, f_X11_tells_b55, f_X11_tells_b66, e_X11_isFlight, e_X11_isBird, e_X11_isDay, k6, f3, bx_in hb (show N < 2147483648 by omega), bx_in hf (show Fl < 2147483648 by omega), hd, hM, i24, v1, n1, y0, dw, nI_1, bz, nx_eq, ck_true, br_true, br_false, bd_eq, de_eq, mN_sI_, mK_sI_, mL_sI_, mI_sI_ap, mJ_sI_, mR_sI_, mN_sJ_, mK_sJ_, mL_sJ_, mI_sJ_, mJ_sJ_ap, mR_sJ_, mN_sR_, mK_sR_, mL_sR_, mI_sR_, mJ_sR_, mR_sR_ap, Nat.reduceEqDiff, Nat.reduceAdd, ↓reduceIte, and_true, true_and, and_false, false_and, or_true, true_or, or_false, false_or, not_true_eq_false, not_false_eq_true, i10, i01, bi_z, Option.some.injEq, reduceCtorEq, Nat.reduceLeDiff]
        · by_cases y1 : mI m 72 (24 * f + b) ≤ nI (d + 1)
          · simp only [f_X11_withdraw, f_X11_tells, f_X11_tells_b55, f_X11_tells_b66, e_X11_isFlight, e_X11_isBird, e_X11_isDay, k6, f3, bx_in hb (show N < 2147483648 by omega), bx_in hf (show Fl < 2147483648 by omega), hd, hM, i24, v1, n1, y0, y1, dw, nI_1, bz, nx_eq, ck_true, br_true, br_false, bd_eq, de_eq, mN_sI_, mK_sI_, mL_sI_, mI_sI_ap, mJ_sI_, mR_sI_, mN_sJ_, mK_sJ_, mL_sJ_, mI_sJ_, mJ_sJ_ap, mR_sJ_, mN_sR_, mK_sR_, mL_sR_, mI_sR_, mJ_sR_, mR_sR_ap, Nat.reduceEqDiff, Nat.reduceAdd, ↓reduceIte, and_true, true_and, and_false, false_and, or_true, true_or, or_false, false_or, not_true_eq_false, not_false_eq_true, i10, i01, bi_z, Option.some.injEq, reduceCtorEq, Nat.reduceLeDiff]
          · simp only [f_X11_withdraw, f_X11_tells, f_X11_tells_b55, f_X11_tells_b66, e_X11_isFlight, e_X11_isBird, e_X11_isDay, k6, f3, bx_in hb (show N < 2147483648 by omega), bx_in hf (show Fl < 2147483648 by omega), hd, hM, i24, v1, n1, y0, y1, dw, nI_1, bz, nx_eq, ck_true, br_true, br_false, bd_eq, de_eq, mN_sI_, mK_sI_, mL_sI_, mI_sI_ap, mJ_sI_, mR_sI_, mN_sJ_, mK_sJ_, mL_sJ_, mI_sJ_, mJ_sJ_ap, mR_sJ_, mN_sR_, mK_sR_, mL_sR_, mI_sR_, mJ_sR_, mR_sR_ap, Nat.reduceEqDiff, Nat.reduceAdd, ↓reduceIte, and_true, true_and, and_false, false_and, or_true, true_or, or_false, false_or, not_true_eq_false, not_false_eq_true, i10, i01, bi_z, Option.some.injEq, reduceCtorEq, Nat.reduceLeDiff]
      · refine Sim.of (r := 0) (c' := c) (m' := sI m 50 2 0) ?_ ?_ (h.thr 0)
        · simp only [f_X10_withdraw, eA, e_X1_hasBird, e_X10_isDay, k5, bx_in hb (show N < 2147483648 by omega), hd, hC, nx_eq, ck_true, br_true, br_false, bd_eq, de_eq, mN_sI_, mK_sI_, mL_sI_, mI_sI_ap, mJ_sI_, mR_sI_, mN_sJ_, mK_sJ_, mL_sJ_, mI_sJ_, mJ_sJ_ap, mR_sJ_, mN_sR_, mK_sR_, mL_sR_, mI_sR_, mJ_sR_, mR_sR_ap, Nat.reduceEqDiff, Nat.reduceAdd, ↓reduceIte, and_true, true_and, and_false, false_and, or_true, true_or, or_false, false_or, not_true_eq_false, not_false_eq_true, i10, i01, bi_z, Option.some.injEq, reduceCtorEq, Nat.reduceLeDiff]
        · simp only [f_X11_withdraw, f_X11_tells, e_X11_isFlight, e_X11_isBird, e_X11_isDay, k6, f3, bx_in hb (show N < 2147483648 by omega), bx_in hf (show Fl < 2147483648 by omega), hd, hM, bz, nx_eq, ck_true, br_true, br_false, bd_eq, de_eq, mN_sI_, mK_sI_, mL_sI_, mI_sI_ap, mJ_sI_, mR_sI_, mN_sJ_, mK_sJ_, mL_sJ_, mI_sJ_, mJ_sJ_ap, mR_sJ_, mN_sR_, mK_sR_, mL_sR_, mI_sR_, mJ_sR_, mR_sR_ap, Nat.reduceEqDiff, Nat.reduceAdd, ↓reduceIte, and_true, true_and, and_false, false_and, or_true, true_or, or_false, false_or, not_true_eq_false, not_false_eq_true, i10, i01, bi_z, Option.some.injEq, reduceCtorEq, Nat.reduceLeDiff]
    · refine Sim.of (r := 0) (c' := c) (m' := sI m 50 2 0) ?_ ?_ (h.thr 0)
      · simp only [f_X10_withdraw, eA, e_X1_hasBird, k5, bx_out hb, hC, nx_eq, ck_true, br_true, br_false, bd_eq, de_eq, mN_sI_, mK_sI_, mL_sI_, mI_sI_ap, mJ_sI_, mR_sI_, mN_sJ_, mK_sJ_, mL_sJ_, mI_sJ_, mJ_sJ_ap, mR_sJ_, mN_sR_, mK_sR_, mL_sR_, mI_sR_, mJ_sR_, mR_sR_ap, Nat.reduceEqDiff, Nat.reduceAdd, ↓reduceIte, and_true, true_and, and_false, false_and, or_true, true_or, or_false, false_or, not_true_eq_false, not_false_eq_true, i10, i01, bi_z, Option.some.injEq, reduceCtorEq, Nat.reduceLeDiff]
      · simp only [f_X11_withdraw, f_X11_tells, e_X11_isFlight, e_X11_isBird, k6, f3, bx_out hb, bx_in hf (show Fl < 2147483648 by omega), hM, bz, nx_eq, ck_true, br_true, br_false, bd_eq, de_eq, mN_sI_, mK_sI_, mL_sI_, mI_sI_ap, mJ_sI_, mR_sI_, mN_sJ_, mK_sJ_, mL_sJ_, mI_sJ_, mJ_sJ_ap, mR_sJ_, mN_sR_, mK_sR_, mL_sR_, mI_sR_, mJ_sR_, mR_sR_ap, Nat.reduceEqDiff, Nat.reduceAdd, ↓reduceIte, and_true, true_and, and_false, false_and, or_true, true_or, or_false, false_or, not_true_eq_false, not_false_eq_true, i10, i01, bi_z, Option.some.injEq, reduceCtorEq, Nat.reduceLeDiff]
  · refine Sim.of (r := 0) (c' := c) (m' := sI m 50 2 0) ?_ ?_ (h.thr 0)
    · simp only [f_X10_withdraw, e_fA_out F hC hfl hf, hC, nx_eq, ck_true, br_true, br_false, bd_eq, de_eq, mN_sI_, mK_sI_, mL_sI_, mI_sI_ap, mJ_sI_, mR_sI_, mN_sJ_, mK_sJ_, mL_sJ_, mI_sJ_, mJ_sJ_ap, mR_sJ_, mN_sR_, mK_sR_, mL_sR_, mI_sR_, mJ_sR_, mR_sR_ap, Nat.reduceEqDiff, Nat.reduceAdd, ↓reduceIte, and_true, true_and, and_false, false_and, or_true, true_or, or_false, false_or, not_true_eq_false, not_false_eq_true, i10, i01, bi_z, Option.some.injEq, reduceCtorEq, Nat.reduceLeDiff]
    · simp only [f_X11_withdraw, f_X11_tells, e_X11_isFlight, f3, bx_out hf, hM, bz, nx_eq, ck_true, br_true, br_false, bd_eq, de_eq, mN_sI_, mK_sI_, mL_sI_, mI_sI_ap, mJ_sI_, mR_sI_, mN_sJ_, mK_sJ_, mL_sJ_, mI_sJ_, mJ_sJ_ap, mR_sJ_, mN_sR_, mK_sR_, mL_sR_, mI_sR_, mJ_sR_, mR_sR_ap, Nat.reduceEqDiff, Nat.reduceAdd, ↓reduceIte, and_true, true_and, and_false, false_and, or_true, true_or, or_false, false_or, not_true_eq_false, not_false_eq_true, i10, i01, bi_z, Option.some.injEq, reduceCtorEq, Nat.reduceLeDiff]
/-- clear -/
theorem sim_clear (F : Nat) {c m : Mem} (h : Rel c m) (p1 p2 : Int32) : Sim (f_X10_clear F c 0 p1 p2) (f_X11_clear F m 50 p1 p2) := by
  have hC := h.1
  have hM := h.2.1
  obtain ⟨L, N, hcl, Fl, fid, S, hfl⟩ := h.2.2.2.2.2.2.2
  have k2 := hcl.2.1
  have k5 := hcl.2.2.2.2.1
  have k6 := hcl.2.2.2.2.2.1
  have f1 := hfl.1
  have f3 := hfl.2.2.1
  rcases ix_or p1 (n := Fl) (by omega) with ⟨f, hf, rfl⟩ | hf
  · have eA := e_fA_in F hC hfl hf
    rcases ix_or p2 (n := N) (by omega) with ⟨b, hb, rfl⟩ | hb
    · obtain ⟨-, hsf, -, -, -, -, hday, -⟩ := hfl.2.2.2.1 f hf
      have hb24 : b < 24 := by omega
      have g1 : ¬ nI b < 0 := nI_pos (by omega)
      have g2 : ¬ (24 : Int32) ≤ nI b := nI_ge (b := 24) (by omega) (by decide)
      have v1 : vp_in (nI (24 * f + b)) 144 := vp_nI (by omega) (by decide)
      have n1 : (nI (24 * f + b)).toNatClampNeg = 24 * f + b := nI_cl (by omega)
      rcases (hday b hb24).1 with ⟨x1, y1⟩ | ⟨v, hv, x1, y1⟩
      · refine Sim.of (r := 0) (c' := c) (m' := sI m 50 2 0) ?_ ?_ (h.thr 0)
        · simp only [f_X10_clear, f_X2_dropProtests, eA, e_X1_hasBird, k5, bx_in hb (show N < 2147483648 by omega), nI_ge hb (show N < 2147483648 by omega), hC, hsf, g1, g2, vp_nI hb24 (by decide), nI_cl (show b < 2147483648 by omega), x1, nx_eq, ck_true, br_true, br_false, bd_eq, de_eq, mN_sI_, mK_sI_, mL_sI_, mI_sI_ap, mJ_sI_, mR_sI_, mN_sJ_, mK_sJ_, mL_sJ_, mI_sJ_, mJ_sJ_ap, mR_sJ_, mN_sR_, mK_sR_, mL_sR_, mI_sR_, mJ_sR_, mR_sR_ap, Nat.reduceEqDiff, Nat.reduceAdd, ↓reduceIte, and_true, true_and, and_false, false_and, or_true, true_or, or_false, false_or, not_true_eq_false, not_false_eq_true, i10, i01, bi_z, Option.some.injEq, reduceCtorEq, Nat.reduceLeDiff]
        · simp only [f_X11_clear, e_X11_isFlight, e_X11_isBird, k6, f3, bx_in hb (show N < 2147483648 by omega), bx_in hf (show Fl < 2147483648 by omega), hM, i24, v1, n1, y1, nx_eq, ck_true, br_true, br_false, bd_eq, de_eq, mN_sI_, mK_sI_, mL_sI_, mI_sI_ap, mJ_sI_, mR_sI_, mN_sJ_, mK_sJ_, mL_sJ_, mI_sJ_, mJ_sJ_ap, mR_sJ_, mN_sR_, mK_sR_, mL_sR_, mI_sR_, mJ_sR_, mR_sR_ap, Nat.reduceEqDiff, Nat.reduceAdd, ↓reduceIte, and_true, true_and, and_false, false_and, or_true, true_or, or_false, false_or, not_true_eq_false, not_false_eq_true, i10, i01, bi_z, Option.some.injEq, reduceCtorEq, Nat.reduceLeDiff]
      · have g3 : ¬ nI v = (401 : Int32) := fun e => absurd ((nI_eq (by omega) (by decide)).mp (show nI v = nI 401 from e)) (by omega)
        have g4 : ¬ nI (v + 1) = 0 := nI_ne0 (by omega) (by omega)
        refine Sim.of (r := 1) (c' := sI c (fid f + 10) b 401) (m' := sI (sI m 50 2 0) 71 (24 * f + b) 0) ?_ ?_ (h.day hcl hfl hf hb24 (by omega) (Or.inl ⟨rfl, rfl⟩) rfl rfl)
        · simp only [f_X10_clear, f_X2_dropProtests, eA, e_X1_hasBird, k5, bx_in hb (show N < 2147483648 by omega), nI_ge hb (show N < 2147483648 by omega), hC, hsf, g1, g2, vp_nI hb24 (by decide), nI_cl (show b < 2147483648 by omega), x1, g3, nx_eq, ck_true, br_true, br_false, bd_eq, de_eq, mN_sI_, mK_sI_, mL_sI_, mI_sI_ap, mJ_sI_, mR_sI_, mN_sJ_, mK_sJ_, mL_sJ_, mI_sJ_, mJ_sJ_ap, mR_sJ_, mN_sR_, mK_sR_, mL_sR_, mI_sR_, mJ_sR_, mR_sR_ap, Nat.reduceEqDiff, Nat.reduceAdd, ↓reduceIte, and_true, true_and, and_false, false_and, or_true, true_or, or_false, false_or, not_true_eq_false, not_false_eq_true, i10, i01, bi_z, Option.some.injEq, reduceCtorEq, Nat.reduceLeDiff]
        · simp only [f_X11_clear, e_X11_isFlight, e_X11_isBird, k6, f3, bx_in hb (show N < 2147483648 by omega), bx_in hf (show Fl < 2147483648 by omega), hM, i24, v1, n1, y1, g4, nx_eq, ck_true, br_true, br_false, bd_eq, de_eq, mN_sI_, mK_sI_, mL_sI_, mI_sI_ap, mJ_sI_, mR_sI_, mN_sJ_, mK_sJ_, mL_sJ_, mI_sJ_, mJ_sJ_ap, mR_sJ_, mN_sR_, mK_sR_, mL_sR_, mI_sR_, mJ_sR_, mR_sR_ap, Nat.reduceEqDiff, Nat.reduceAdd, ↓reduceIte, and_true, true_and, and_false, false_and, or_true, true_or, or_false, false_or, not_true_eq_false, not_false_eq_true, i10, i01, bi_z, Option.some.injEq, reduceCtorEq, Nat.reduceLeDiff]
    · refine Sim.of (r := 0) (c' := c) (m' := sI m 50 2 0) ?_ ?_ (h.thr 0)
      · simp only [f_X10_clear, eA, e_X1_hasBird, k5, bx_out hb, hC, nx_eq, ck_true, br_true, br_false, bd_eq, de_eq, mN_sI_, mK_sI_, mL_sI_, mI_sI_ap, mJ_sI_, mR_sI_, mN_sJ_, mK_sJ_, mL_sJ_, mI_sJ_, mJ_sJ_ap, mR_sJ_, mN_sR_, mK_sR_, mL_sR_, mI_sR_, mJ_sR_, mR_sR_ap, Nat.reduceEqDiff, Nat.reduceAdd, ↓reduceIte, and_true, true_and, and_false, false_and, or_true, true_or, or_false, false_or, not_true_eq_false, not_false_eq_true, i10, i01, bi_z, Option.some.injEq, reduceCtorEq, Nat.reduceLeDiff]
      · simp only [f_X11_clear, e_X11_isFlight, e_X11_isBird, k6, f3, bx_out hb, bx_in hf (show Fl < 2147483648 by omega), hM, nx_eq, ck_true, br_true, br_false, bd_eq, de_eq, mN_sI_, mK_sI_, mL_sI_, mI_sI_ap, mJ_sI_, mR_sI_, mN_sJ_, mK_sJ_, mL_sJ_, mI_sJ_, mJ_sJ_ap, mR_sJ_, mN_sR_, mK_sR_, mL_sR_, mI_sR_, mJ_sR_, mR_sR_ap, Nat.reduceEqDiff, Nat.reduceAdd, ↓reduceIte, and_true, true_and, and_false, false_and, or_true, true_or, or_false, false_or, not_true_eq_false, not_false_eq_true, i10, i01, bi_z, Option.some.injEq, reduceCtorEq, Nat.reduceLeDiff]
  · refine Sim.of (r := 0) (c' := c) (m' := sI m 50 2 0) ?_ ?_ (h.thr 0)
    · simp only [f_X10_clear, e_fA_out F hC hfl hf, hC, nx_eq, ck_true, br_true, br_false, bd_eq, de_eq, mN_sI_, mK_sI_, mL_sI_, mI_sI_ap, mJ_sI_, mR_sI_, mN_sJ_, mK_sJ_, mL_sJ_, mI_sJ_, mJ_sJ_ap, mR_sJ_, mN_sR_, mK_sR_, mL_sR_, mI_sR_, mJ_sR_, mR_sR_ap, Nat.reduceEqDiff, Nat.reduceAdd, ↓reduceIte, and_true, true_and, and_false, false_and, or_true, true_or, or_false, false_or, not_true_eq_false, not_false_eq_true, i10, i01, bi_z, Option.some.injEq, reduceCtorEq, Nat.reduceLeDiff]
    · simp only [f_X11_clear, e_X11_isFlight, f3, bx_out hf, hM, nx_eq, ck_true, br_true, br_false, bd_eq, de_eq, mN_sI_, mK_sI_, mL_sI_, mI_sI_ap, mJ_sI_, mR_sI_, mN_sJ_, mK_sJ_, mL_sJ_, mI_sJ_, mJ_sJ_ap, mR_sJ_, mN_sR_, mK_sR_, mL_sR_, mI_sR_, mJ_sR_, mR_sR_ap, Nat.reduceEqDiff, Nat.reduceAdd, ↓reduceIte, and_true, true_and, and_false, false_and, or_true, true_or, or_false, false_or, not_true_eq_false, not_false_eq_true, i10, i01, bi_z, Option.some.injEq, reduceCtorEq, Nat.reduceLeDiff]
