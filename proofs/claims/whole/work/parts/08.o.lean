theorem vp_nar_b1 : vp_nar .boolean (1 : Int32) = 1 := rfl
theorem vp_nar_b0 : vp_nar .boolean (0 : Int32) = 0 := rfl
/-- clock -/
theorem sim_clock (F : Nat) (hF : 100 ≤ F) {c m : Mem} (h : Rel c m) (p1 p2 p3 p4 p5 : Int32) : Sim (f_X10_clock F c 0 p1 p2 p3 p4 p5) (f_X11_clock F m 50 p1 p2 p3 p4 p5) := by
  have hC := h.1
  have hM := h.2.1
  obtain ⟨L, N, hcl, Fl, fid, S, hfl⟩ := h.2.2.2.2.2.2.2
  have k1 := hcl.1
  have k2 := hcl.2.1
  have k3 := hcl.2.2.1
  have k4 := hcl.2.2.2.1
  have k5 := hcl.2.2.2.2.1
  have k6 := hcl.2.2.2.2.2.1
  have f1 := hfl.1
  have f2 := hfl.2.1
  have f3 := hfl.2.2.1
  rcases ix_or p1 (n := Fl) (by omega) with ⟨f, hf, rfl⟩ | hf
  · skip
    rcases ix_or p2 (n := L) (by omega) with ⟨l, hl, rfl⟩ | hl
    · skip
      by_cases hs3 : rgI 40000 p3
      · skip
        by_cases hs4 : rgI 40000 p4
        · skip
          by_cases hs5 : rgI 40000 p5
          · skip
            by_cases hlt : p3 < p4
            · skip
              obtain ⟨u, u1, rfl⟩ := rgI_rg (h := 40000) (by decide) hs3
              obtain ⟨v, u2, rfl⟩ := rgI_rg (h := 40000) (by decide) hs4
              obtain ⟨w, u3, rfl⟩ := rgI_rg (h := 40000) (by decide) hs5
              have huv : u < v := (nI_ltI (by omega) (by omega)).mp hlt
              obtain ⟨-, hsf, -, hB, -⟩ := hfl.2.2.2.1 f hf
              have hA := hsf.arrs
              have s40 : S f ≤ 40 := hB.2.1
              have s17 : mI c (fid f) 17 = nI (S f) := hB.2.2.2.2.2.2.2.2.2.2.2.1
              have v8 := vp_nI (show l < 8 by omega) (show 8 < 2147483648 by decide)
              have n8 := nI_cl (show l < 2147483648 by omega)
              have g1 : ¬ nI l < 0 := nI_pos (by omega)
              have g2 : nI l < (8 : Int32) := nI_lt (b := 8) (by omega) (by decide)
              have gL : ¬ nI L ≤ nI l := nI_ge hl (by omega)
              have vM : vp_in (nI (8 * f + l)) 48 := vp_nI (by omega) (by decide)
              have nM : (nI (8 * f + l)).toNatClampNeg = 8 * f + l := nI_cl (by omega)
              obtain ⟨c1, e1⟩ : ∃ c1, sI (sI (sI c (fid f + 1) l (nI u)) (fid f + 2) l (nI v)) (fid f + 3) l (nI w) = c1 := ⟨_, rfl⟩
              have i17 : mI c1 (fid f) 17 = nI (S f) := by rw [← e1, mI_sI_o (by omega), mI_sI_o (by omega), mI_sI_o (by omega)]; exact s17
              have i4 : mI c1 (fid f + 4) = mI c (fid f + 4) := by rw [← e1, mI_sI_o (by omega), mI_sI_o (by omega), mI_sI_o (by omega)]
              have i6 : mI c1 (fid f + 6) = mI c (fid f + 6) := by rw [← e1, mI_sI_o (by omega), mI_sI_o (by omega), mI_sI_o (by omega)]
              have w1 : mI c1 (fid f + 1) l = nI u := by rw [← e1, mI_sI_o (by omega), mI_sI_o (by omega), mI_sI_e]
              have w2 : mI c1 (fid f + 2) l = nI v := by rw [← e1, mI_sI_o (by omega), mI_sI_e]
              have w3 : mI c1 (fid f + 3) l = nI w := by rw [← e1, mI_sI_e]
              have j1 : mJ c1 = mJ c := by rw [← e1]; rfl
              have hs1 : shF c1 (fid f) := by rw [← e1]; exact hsf
              obtain ⟨c2, b1, b2, b3⟩ := lp_clk F (show l < 8 by omega) s40 (S f) 0 c1 F hs1 i17 (by omega) (by omega)
              rw [i4, i6, w1, w2, w3, j1] at b3
              have b0 : f_X2_setClock_b36 F (fid f) F c1 (nI l) (0 : Int32) = some ((), c2) := b1
              refine Sim.of (r := 1) (c' := c2) (m' := sI (sI (sI (sI (sI m 50 2 0) 62 (8 * f + l) 1) 63 (8 * f + l) (nI u)) 64 (8 * f + l) (nI v)) 65 (8 * f + l) (nI w)) ?_ ?_ (h.clock hcl hfl hf hl huv u2 u3 (by rw [e1]; exact b2) (fun i hi => ⟨fun e => (b3 i hi).1 ⟨Nat.zero_le _, e⟩, fun e => (b3 i hi).2 (fun z => e z.2)⟩) rfl)
              · simp only [f_X10_clock, f_X2_setClock, e_fA_in F hC hfl hf, e_X1_hasLoft, e_X10_isSecond, k3, gL, hs3, hs4, hs5, hlt, hC, hA, v8, n8, g1, g2, e1, b0, nx_eq, ck_true, br_true, br_false, bd_eq, de_eq, mN_sI_, mK_sI_, mL_sI_, mI_sI_ap, mJ_sI_, mR_sI_, mN_sJ_, mK_sJ_, mL_sJ_, mI_sJ_, mJ_sJ_ap, mR_sJ_, mN_sR_, mK_sR_, mL_sR_, mI_sR_, mJ_sR_, mR_sR_ap, Nat.reduceEqDiff, Nat.reduceAdd, ↓reduceIte, and_true, true_and, and_false, false_and, or_true, true_or, or_false, false_or, not_true_eq_false, not_false_eq_true, i10, i01, ii01, ii02, ii03, ii04, ii05, ii12, ii13, ii14, ii15, ii20, ii21, ii23, ii24, ii25, ii30, ii31, ii32, ii34, ii35, ii40, ii41, ii42, ii43, ii45, ii50, ii51, ii52, ii53, ii54, bi_z, Option.some.injEq, reduceCtorEq, Nat.reduceLeDiff]
              · simp only [f_X11_clock, e_X11_isFlight, e_X11_isLoft, e_X11_isSecond, k4, f3, bx_in hf (show Fl < 2147483648 by omega), bx_in hl (show L < 2147483648 by omega), hs3, hs4, hs5, hlt, hM, i8, vM, nM, vp_nar_b1, nx_eq, ck_true, br_true, br_false, bd_eq, de_eq, mN_sI_, mK_sI_, mL_sI_, mI_sI_ap, mJ_sI_, mR_sI_, mN_sJ_, mK_sJ_, mL_sJ_, mI_sJ_, mJ_sJ_ap, mR_sJ_, mN_sR_, mK_sR_, mL_sR_, mI_sR_, mJ_sR_, mR_sR_ap, Nat.reduceEqDiff, Nat.reduceAdd, ↓reduceIte, and_true, true_and, and_false, false_and, or_true, true_or, or_false, false_or, not_true_eq_false, not_false_eq_true, i10, i01, ii01, ii02, ii03, ii04, ii05, ii12, ii13, ii14, ii15, ii20, ii21, ii23, ii24, ii25, ii30, ii31, ii32, ii34, ii35, ii40, ii41, ii42, ii43, ii45, ii50, ii51, ii52, ii53, ii54, bi_z, Option.some.injEq, reduceCtorEq, Nat.reduceLeDiff]
            · skip
              refine Sim.of (r := 0) (c' := c) (m' := sI m 50 2 0) ?_ ?_ (h.thr 0)
              · simp only [f_X10_clock, e_X1_hasLoft, e_X10_isSecond, k3, bx_in hf (show Fl < 2147483648 by omega), e_fA_in F hC hfl hf, bx_in hl (show L < 2147483648 by omega), hs3, hs4, hs5, hlt, hC, nx_eq, ck_true, br_true, br_false, bd_eq, de_eq, mN_sI_, mK_sI_, mL_sI_, mI_sI_ap, mJ_sI_, mR_sI_, mN_sJ_, mK_sJ_, mL_sJ_, mI_sJ_, mJ_sJ_ap, mR_sJ_, mN_sR_, mK_sR_, mL_sR_, mI_sR_, mJ_sR_, mR_sR_ap, Nat.reduceEqDiff, Nat.reduceAdd, ↓reduceIte, and_true, true_and, and_false, false_and, or_true, true_or, or_false, false_or, not_true_eq_false, not_false_eq_true, i10, i01, ii01, ii02, ii03, ii04, ii05, ii12, ii13, ii14, ii15, ii20, ii21, ii23, ii24, ii25, ii30, ii31, ii32, ii34, ii35, ii40, ii41, ii42, ii43, ii45, ii50, ii51, ii52, ii53, ii54, bi_z, Option.some.injEq, reduceCtorEq, Nat.reduceLeDiff]
              · simp only [f_X11_clock, e_X11_isFlight, e_X11_isLoft, e_X11_isSecond, k4, f3, bx_in hf (show Fl < 2147483648 by omega), e_fA_in F hC hfl hf, bx_in hl (show L < 2147483648 by omega), hs3, hs4, hs5, hlt, hM, nx_eq, ck_true, br_true, br_false, bd_eq, de_eq, mN_sI_, mK_sI_, mL_sI_, mI_sI_ap, mJ_sI_, mR_sI_, mN_sJ_, mK_sJ_, mL_sJ_, mI_sJ_, mJ_sJ_ap, mR_sJ_, mN_sR_, mK_sR_, mL_sR_, mI_sR_, mJ_sR_, mR_sR_ap, Nat.reduceEqDiff, Nat.reduceAdd, ↓reduceIte, and_true, true_and, and_false, false_and, or_true, true_or, or_false, false_or, not_true_eq_false, not_false_eq_true, i10, i01, ii01, ii02, ii03, ii04, ii05, ii12, ii13, ii14, ii15, ii20, ii21, ii23, ii24, ii25, ii30, ii31, ii32, ii34, ii35, ii40, ii41, ii42, ii43, ii45, ii50, ii51, ii52, ii53, ii54, bi_z, Option.some.injEq, reduceCtorEq, Nat.reduceLeDiff]
          · skip
            refine Sim.of (r := 0) (c' := c) (m' := sI m 50 2 0) ?_ ?_ (h.thr 0)
            · simp only [f_X10_clock, e_X1_hasLoft, e_X10_isSecond, k3, bx_in hf (show Fl < 2147483648 by omega), e_fA_in F hC hfl hf, bx_in hl (show L < 2147483648 by omega), hs3, hs4, hs5, hC, nx_eq, ck_true, br_true, br_false, bd_eq, de_eq, mN_sI_, mK_sI_, mL_sI_, mI_sI_ap, mJ_sI_, mR_sI_, mN_sJ_, mK_sJ_, mL_sJ_, mI_sJ_, mJ_sJ_ap, mR_sJ_, mN_sR_, mK_sR_, mL_sR_, mI_sR_, mJ_sR_, mR_sR_ap, Nat.reduceEqDiff, Nat.reduceAdd, ↓reduceIte, and_true, true_and, and_false, false_and, or_true, true_or, or_false, false_or, not_true_eq_false, not_false_eq_true, i10, i01, ii01, ii02, ii03, ii04, ii05, ii12, ii13, ii14, ii15, ii20, ii21, ii23, ii24, ii25, ii30, ii31, ii32, ii34, ii35, ii40, ii41, ii42, ii43, ii45, ii50, ii51, ii52, ii53, ii54, bi_z, Option.some.injEq, reduceCtorEq, Nat.reduceLeDiff]
            · simp only [f_X11_clock, e_X11_isFlight, e_X11_isLoft, e_X11_isSecond, k4, f3, bx_in hf (show Fl < 2147483648 by omega), e_fA_in F hC hfl hf, bx_in hl (show L < 2147483648 by omega), hs3, hs4, hs5, hM, nx_eq, ck_true, br_true, br_false, bd_eq, de_eq, mN_sI_, mK_sI_, mL_sI_, mI_sI_ap, mJ_sI_, mR_sI_, mN_sJ_, mK_sJ_, mL_sJ_, mI_sJ_, mJ_sJ_ap, mR_sJ_, mN_sR_, mK_sR_, mL_sR_, mI_sR_, mJ_sR_, mR_sR_ap, Nat.reduceEqDiff, Nat.reduceAdd, ↓reduceIte, and_true, true_and, and_false, false_and, or_true, true_or, or_false, false_or, not_true_eq_false, not_false_eq_true, i10, i01, ii01, ii02, ii03, ii04, ii05, ii12, ii13, ii14, ii15, ii20, ii21, ii23, ii24, ii25, ii30, ii31, ii32, ii34, ii35, ii40, ii41, ii42, ii43, ii45, ii50, ii51, ii52, ii53, ii54, bi_z, Option.some.injEq, reduceCtorEq, Nat.reduceLeDiff]
        · skip
          refine Sim.of (r := 0) (c' := c) (m' := sI m 50 2 0) ?_ ?_ (h.thr 0)
          · simp only [f_X10_clock, e_X1_hasLoft, e_X10_isSecond, k3, bx_in hf (show Fl < 2147483648 by omega), e_fA_in F hC hfl hf, bx_in hl (show L < 2147483648 by omega), hs3, hs4, hC, nx_eq, ck_true, br_true, br_false, bd_eq, de_eq, mN_sI_, mK_sI_, mL_sI_, mI_sI_ap, mJ_sI_, mR_sI_, mN_sJ_, mK_sJ_, mL_sJ_, mI_sJ_, mJ_sJ_ap, mR_sJ_, mN_sR_, mK_sR_, mL_sR_, mI_sR_, mJ_sR_, mR_sR_ap, Nat.reduceEqDiff, Nat.reduceAdd, ↓reduceIte, and_true, true_and, and_false, false_and, or_true, true_or, or_false, false_or, not_true_eq_false, not_false_eq_true, i10, i01, ii01, ii02, ii03, ii04, ii05, ii12, ii13, ii14, ii15, ii20, ii21, ii23, ii24, ii25, ii30, ii31, ii32, ii34, ii35, ii40, ii41, ii42, ii43, ii45, ii50, ii51, ii52, ii53, ii54, bi_z, Option.some.injEq, reduceCtorEq, Nat.reduceLeDiff]
          · simp only [f_X11_clock, e_X11_isFlight, e_X11_isLoft, e_X11_isSecond, k4, f3, bx_in hf (show Fl < 2147483648 by omega), e_fA_in F hC hfl hf, bx_in hl (show L < 2147483648 by omega), hs3, hs4, hM, nx_eq, ck_true, br_true, br_false, bd_eq, de_eq, mN_sI_, mK_sI_, mL_sI_, mI_sI_ap, mJ_sI_, mR_sI_, mN_sJ_, mK_sJ_, mL_sJ_, mI_sJ_, mJ_sJ_ap, mR_sJ_, mN_sR_, mK_sR_, mL_sR_, mI_sR_, mJ_sR_, mR_sR_ap, Nat.reduceEqDiff, Nat.reduceAdd, ↓reduceIte, and_true, true_and, and_false, false_and, or_true, true_or, or_false, false_or, not_true_eq_false, not_false_eq_true, i10, i01, ii01, ii02, ii03, ii04, ii05, ii12, ii13, ii14, ii15, ii20, ii21, ii23, ii24, ii25, ii30, ii31, ii32, ii34, ii35, ii40, ii41, ii42, ii43, ii45, ii50, ii51, ii52, ii53, ii54, bi_z, Option.some.injEq, reduceCtorEq, Nat.reduceLeDiff]
      · skip
        refine Sim.of (r := 0) (c' := c) (m' := sI m 50 2 0) ?_ ?_ (h.thr 0)
        · simp only [f_X10_clock, e_X1_hasLoft, e_X10_isSecond, k3, bx_in hf (show Fl < 2147483648 by omega), e_fA_in F hC hfl hf, bx_in hl (show L < 2147483648 by omega), hs3, hC, nx_eq, ck_true, br_true, br_false, bd_eq, de_eq, mN_sI_, mK_sI_, mL_sI_, mI_sI_ap, mJ_sI_, mR_sI_, mN_sJ_, mK_sJ_, mL_sJ_, mI_sJ_, mJ_sJ_ap, mR_sJ_, mN_sR_, mK_sR_, mL_sR_, mI_sR_, mJ_sR_, mR_sR_ap, Nat.reduceEqDiff, Nat.reduceAdd, ↓reduceIte, and_true, true_and, and_false, false_and, or_true, true_or, or_false, false_or, not_true_eq_false, not_false_eq_true, i10, i01, ii01, ii02, ii03, ii04, ii05, ii12, ii13, ii14, ii15, ii20, ii21, ii23, ii24, ii25, ii30, ii31, ii32, ii34, ii35, ii40, ii41, ii42, ii43, ii45, ii50, ii51, ii52, ii53, ii54, bi_z, Option.some.injEq, reduceCtorEq, Nat.reduceLeDiff]
        · simp only [f_X11_clock, e_X11_isFlight, e_X11_isLoft, e_X11_isSecond, k4, f3, bx_in hf (show Fl < 2147483648 by omega), e_fA_in F hC hfl hf, bx_in hl (show L < 2147483648 by omega), hs3, hM, nx_eq, ck_true, br_true, br_false, bd_eq, de_eq, mN_sI_, mK_sI_, mL_sI_, mI_sI_ap, mJ_sI_, mR_sI_, mN_sJ_, mK_sJ_, mL_sJ_, mI_sJ_, mJ_sJ_ap, mR_sJ_, mN_sR_, mK_sR_, mL_sR_, mI_sR_, mJ_sR_, mR_sR_ap, Nat.reduceEqDiff, Nat.reduceAdd, ↓reduceIte, and_true, true_and, and_false, false_and, or_true, true_or, or_false, false_or, not_true_eq_false, not_false_eq_true, i10, i01, ii01, ii02, ii03, ii04, ii05, ii12, ii13, ii14, ii15, ii20, ii21, ii23, ii24, ii25, ii30, ii31, ii32, ii34, ii35, ii40, ii41, ii42, ii43, ii45, ii50, ii51, ii52, ii53, ii54, bi_z, Option.some.injEq, reduceCtorEq, Nat.reduceLeDiff]
    · skip
      refine Sim.of (r := 0) (c' := c) (m' := sI m 50 2 0) ?_ ?_ (h.thr 0)
      · simp only [f_X10_clock, e_X1_hasLoft, e_X10_isSecond, k3, bx_in hf (show Fl < 2147483648 by omega), e_fA_in F hC hfl hf, bx_out hl, hC, nx_eq, ck_true, br_true, br_false, bd_eq, de_eq, mN_sI_, mK_sI_, mL_sI_, mI_sI_ap, mJ_sI_, mR_sI_, mN_sJ_, mK_sJ_, mL_sJ_, mI_sJ_, mJ_sJ_ap, mR_sJ_, mN_sR_, mK_sR_, mL_sR_, mI_sR_, mJ_sR_, mR_sR_ap, Nat.reduceEqDiff, Nat.reduceAdd, ↓reduceIte, and_true, true_and, and_false, false_and, or_true, true_or, or_false, false_or, not_true_eq_false, not_false_eq_true, i10, i01, ii01, ii02, ii03, ii04, ii05, ii12, ii13, ii14, ii15, ii20, ii21, ii23, ii24, ii25, ii30, ii31, ii32, ii34, ii35, ii40, ii41, ii42, ii43, ii45, ii50, ii51, ii52, ii53, ii54, bi_z, Option.some.injEq, reduceCtorEq, Nat.reduceLeDiff]
      · simp only [f_X11_clock, e_X11_isFlight, e_X11_isLoft, e_X11_isSecond, k4, f3, bx_in hf (show Fl < 2147483648 by omega), e_fA_in F hC hfl hf, bx_out hl, hM, nx_eq, ck_true, br_true, br_false, bd_eq, de_eq, mN_sI_, mK_sI_, mL_sI_, mI_sI_ap, mJ_sI_, mR_sI_, mN_sJ_, mK_sJ_, mL_sJ_, mI_sJ_, mJ_sJ_ap, mR_sJ_, mN_sR_, mK_sR_, mL_sR_, mI_sR_, mJ_sR_, mR_sR_ap, Nat.reduceEqDiff, Nat.reduceAdd, ↓reduceIte, and_true, true_and, and_false, false_and, or_true, true_or, or_false, false_or, not_true_eq_false, not_false_eq_true, i10, i01, ii01, ii02, ii03, ii04, ii05, ii12, ii13, ii14, ii15, ii20, ii21, ii23, ii24, ii25, ii30, ii31, ii32, ii34, ii35, ii40, ii41, ii42, ii43, ii45, ii50, ii51, ii52, ii53, ii54, bi_z, Option.some.injEq, reduceCtorEq, Nat.reduceLeDiff]
  · skip
    refine Sim.of (r := 0) (c' := c) (m' := sI m 50 2 0) ?_ ?_ (h.thr 0)
    · simp only [f_X10_clock, e_X1_hasLoft, e_X10_isSecond, k3, bx_out hf, e_fA_out F hC hfl hf, hC, nx_eq, ck_true, br_true, br_false, bd_eq, de_eq, mN_sI_, mK_sI_, mL_sI_, mI_sI_ap, mJ_sI_, mR_sI_, mN_sJ_, mK_sJ_, mL_sJ_, mI_sJ_, mJ_sJ_ap, mR_sJ_, mN_sR_, mK_sR_, mL_sR_, mI_sR_, mJ_sR_, mR_sR_ap, Nat.reduceEqDiff, Nat.reduceAdd, ↓reduceIte, and_true, true_and, and_false, false_and, or_true, true_or, or_false, false_or, not_true_eq_false, not_false_eq_true, i10, i01, ii01, ii02, ii03, ii04, ii05, ii12, ii13, ii14, ii15, ii20, ii21, ii23, ii24, ii25, ii30, ii31, ii32, ii34, ii35, ii40, ii41, ii42, ii43, ii45, ii50, ii51, ii52, ii53, ii54, bi_z, Option.some.injEq, reduceCtorEq, Nat.reduceLeDiff]
    · simp only [f_X11_clock, e_X11_isFlight, e_X11_isLoft, e_X11_isSecond, k4, f3, bx_out hf, e_fA_out F hC hfl hf, hM, nx_eq, ck_true, br_true, br_false, bd_eq, de_eq, mN_sI_, mK_sI_, mL_sI_, mI_sI_ap, mJ_sI_, mR_sI_, mN_sJ_, mK_sJ_, mL_sJ_, mI_sJ_, mJ_sJ_ap, mR_sJ_, mN_sR_, mK_sR_, mL_sR_, mI_sR_, mJ_sR_, mR_sR_ap, Nat.reduceEqDiff, Nat.reduceAdd, ↓reduceIte, and_true, true_and, and_false, false_and, or_true, true_or, or_false, false_or, not_true_eq_false, not_false_eq_true, i10, i01, ii01, ii02, ii03, ii04, ii05, ii12, ii13, ii14, ii15, ii20, ii21, ii23, ii24, ii25, ii30, ii31, ii32, ii34, ii35, ii40, ii41, ii42, ii43, ii45, ii50, ii51, ii52, ii53, ii54, bi_z, Option.some.injEq, reduceCtorEq, Nat.reduceLeDiff]
