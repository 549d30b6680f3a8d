/-! prize and pool -/
theorem frP.frK {c c' : Mem} (h : frP 47 c c') : frK c c' := ⟨h.1, h.2.1, h.2.2.1, h.2.2.2.1, fun x hx => h.2.2.2.2.1 x (by omega) (by omega) (by omega) (by omega), fun x hx => h.2.2.2.2.2 x (by omega)⟩
/-- stakes as plain numbers -/
theorem RfK.st {c m : Mem} {f q : Nat} (h : RfK c m f q) {l : Nat} (hl : l < 6) : ∃ st : Nat → Nat, ∀ b, b < 24 → st b ≤ 10000 ∧ mI c (q + (14 + 4 * l)) b = nI (st b) ∧ mI m 73 (144 * f + 24 * l + b) = nI (st b) := by
  refine ⟨fun b => (mI m 73 (144 * f + 24 * l + b)).toNatClampNeg, fun b hb => ?_⟩
  obtain ⟨a1, -⟩ := h l hl
  obtain ⟨a2, a3⟩ := a1 b hb
  obtain ⟨a4, a5⟩ := rg_cn (by decide) a3
  exact ⟨a5, a2.trans a4, a4⟩
theorem e_poN (F : Nat) {c m : Mem} (hC : shC c) {L N Fl nl : Nat} {fid S : Nat → Nat} (hfl : Rfls c m L N Fl fid S) {p1 p2 p3 : Int32} (b5 : mI c 17 9 = nI nl) (b3 : nl ≤ 6) (hn : (p1 < 0 ∨ nI Fl ≤ p1) ∨ (p2 < 0 ∨ nI nl ≤ p2) ∨ ¬ rgI 400 p3) : f_X10_payoutOf F c 0 p1 p2 p3 = some (none, c) := by
  have f1 := hfl.1
  rcases ix_or p1 (n := Fl) (by omega) with ⟨f, hf, rfl⟩ | hf
  · rcases ix_or p2 (n := nl) (by omega) with ⟨l, hl, rfl⟩ | hl
    · have hd : ¬ rgI 400 p3 := by
        rcases hn with (h | h) | (h | h) | h
        · exact absurd h (nI_pos (by omega))
        · exact absurd h (nI_ge hf (by omega))
        · exact absurd h (nI_pos (by omega))
        · exact absurd h (nI_ge hl (by omega))
        · exact h
      simp only [f_X10_payoutOf, f_X10_payoutOf_b32, hC, e_fA_in F hC hfl hf, e_pA_in F hC hfl hf b5 hl b3, e_X10_isDay, hd, nx_eq, ck_true, br_true, br_false, bd_eq, de_eq, mN_sI_, mK_sI_, mL_sI_, mI_sI_ap, mJ_sI_, mR_sI_, mN_sJ_, mK_sJ_, mL_sJ_, mI_sJ_, mJ_sJ_ap, mR_sJ_, mN_sR_, mK_sR_, mL_sR_, mI_sR_, mJ_sR_, mR_sR_ap, Nat.reduceEqDiff, Nat.reduceAdd, ↓reduceIte, and_true, true_and, and_false, false_and, or_true, true_or, or_false, false_or, not_true_eq_false, not_false_eq_true, i10, i01, ii01, ii02, ii03, ii04, ii05, ii12, ii13, ii14, ii15, ii20, ii21, ii23, ii24, ii25, ii30, ii31, ii32, ii34, ii35, ii40, ii41, ii42, ii43, ii45, ii50, ii51, ii52, ii53, ii54, bi_z, Option.some.injEq, reduceCtorEq, Nat.reduceLeDiff]
    · simp only [f_X10_payoutOf, f_X10_payoutOf_b32, hC, e_fA_in F hC hfl hf, e_pA_outL F hC hfl hf b5 hl, nx_eq, ck_true, br_true, br_false, bd_eq, de_eq, mN_sI_, mK_sI_, mL_sI_, mI_sI_ap, mJ_sI_, mR_sI_, mN_sJ_, mK_sJ_, mL_sJ_, mI_sJ_, mJ_sJ_ap, mR_sJ_, mN_sR_, mK_sR_, mL_sR_, mI_sR_, mJ_sR_, mR_sR_ap, Nat.reduceEqDiff, Nat.reduceAdd, ↓reduceIte, and_true, true_and, and_false, false_and, or_true, true_or, or_false, false_or, not_true_eq_false, not_false_eq_true, i10, i01, ii01, ii02, ii03, ii04, ii05, ii12, ii13, ii14, ii15, ii20, ii21, ii23, ii24, ii25, ii30, ii31, ii32, ii34, ii35, ii40, ii41, ii42, ii43, ii45, ii50, ii51, ii52, ii53, ii54, bi_z, Option.some.injEq, reduceCtorEq, Nat.reduceLeDiff]
  · simp only [f_X10_payoutOf, f_X10_payoutOf_b32, hC, e_fA_out F hC hfl hf, e_pA_outF F hC hfl hf, nx_eq, ck_true, br_true, br_false, bd_eq, de_eq, mN_sI_, mK_sI_, mL_sI_, mI_sI_ap, mJ_sI_, mR_sI_, mN_sJ_, mK_sJ_, mL_sJ_, mI_sJ_, mJ_sJ_ap, mR_sJ_, mN_sR_, mK_sR_, mL_sR_, mI_sR_, mJ_sR_, mR_sR_ap, Nat.reduceEqDiff, Nat.reduceAdd, ↓reduceIte, and_true, true_and, and_false, false_and, or_true, true_or, or_false, false_or, not_true_eq_false, not_false_eq_true, i10, i01, ii01, ii02, ii03, ii04, ii05, ii12, ii13, ii14, ii15, ii20, ii21, ii23, ii24, ii25, ii30, ii31, ii32, ii34, ii35, ii40, ii41, ii42, ii43, ii45, ii50, ii51, ii52, ii53, ii54, bi_z, Option.some.injEq, reduceCtorEq, Nat.reduceLeDiff]
theorem e_poC (F : Nat) {c m : Mem} (hC : shC c) {L N Fl nl f l : Nat} {fid S : Nat → Nat} (hfl : Rfls c m L N Fl fid S) {p3 : Int32} (b5 : mI c 17 9 = nI nl) (b3 : nl ≤ 6) (hf : f < Fl) (hl : l < nl) (hd : rgI 400 p3) (hz : ¬ mI c (fid f + (13 + 4 * l)) 2 = 0) : f_X10_payoutOf F c 0 (nI f) (nI l) p3 = some (some (fid f + (15 + 4 * l)), c) := by
  obtain ⟨-, hsF, -⟩ := hfl.2.2.2.1 f hf
  obtain ⟨-, p2, -, -, -, p6, -⟩ := hsF.purse (show l < 6 by omega)
  simp only [f_X10_payoutOf, hC, e_fA_in F hC hfl hf, e_pA_in F hC hfl hf b5 hl b3, e_X10_isDay, hd, p2, hz, p6, nx_eq, ck_true, br_true, br_false, bd_eq, de_eq, mN_sI_, mK_sI_, mL_sI_, mI_sI_ap, mJ_sI_, mR_sI_, mN_sJ_, mK_sJ_, mL_sJ_, mI_sJ_, mJ_sJ_ap, mR_sJ_, mN_sR_, mK_sR_, mL_sR_, mI_sR_, mJ_sR_, mR_sR_ap, Nat.reduceEqDiff, Nat.reduceAdd, ↓reduceIte, and_true, true_and, and_false, false_and, or_true, true_or, or_false, false_or, not_true_eq_false, not_false_eq_true, i10, i01, ii01, ii02, ii03, ii04, ii05, ii12, ii13, ii14, ii15, ii20, ii21, ii23, ii24, ii25, ii30, ii31, ii32, ii34, ii35, ii40, ii41, ii42, ii43, ii45, ii50, ii51, ii52, ii53, ii54, bi_z, Option.some.injEq, reduceCtorEq, Nat.reduceLeDiff]
theorem e_poO (F : Nat) {c c' m : Mem} (hC : shC c) {L N Fl nl f l : Nat} {fid S : Nat → Nat} (hfl : Rfls c m L N Fl fid S) {p3 : Int32} (b5 : mI c 17 9 = nI nl) (b3 : nl ≤ 6) (hf : f < Fl) (hl : l < nl) (hd : rgI 400 p3) (hz : mI c (fid f + (13 + 4 * l)) 2 = 0) (hC' : shC c') (hS : f_X10_settle F c 0 (some 47) (some (fid f)) (nI l) p3 = some ((), c')) : f_X10_payoutOf F c 0 (nI f) (nI l) p3 = some (some 47, c') := by
  obtain ⟨-, hsF, -⟩ := hfl.2.2.2.1 f hf
  obtain ⟨-, p2, -, -, -, p6, -⟩ := hsF.purse (show l < 6 by omega)
  simp only [f_X10_payoutOf, hC, hC', e_fA_in F hC hfl hf, e_pA_in F hC hfl hf b5 hl b3, e_X10_isDay, hd, p2, hz, hS, nx_eq, ck_true, br_true, br_false, bd_eq, de_eq, mN_sI_, mK_sI_, mL_sI_, mI_sI_ap, mJ_sI_, mR_sI_, mN_sJ_, mK_sJ_, mL_sJ_, mI_sJ_, mJ_sJ_ap, mR_sJ_, mN_sR_, mK_sR_, mL_sR_, mI_sR_, mJ_sR_, mR_sR_ap, Nat.reduceEqDiff, Nat.reduceAdd, ↓reduceIte, and_true, true_and, and_false, false_and, or_true, true_or, or_false, false_or, not_true_eq_false, not_false_eq_true, i10, i01, ii01, ii02, ii03, ii04, ii05, ii12, ii13, ii14, ii15, ii20, ii21, ii23, ii24, ii25, ii30, ii31, ii32, ii34, ii35, ii40, ii41, ii42, ii43, ii45, ii50, ii51, ii52, ii53, ii54, bi_z, Option.some.injEq, reduceCtorEq, Nat.reduceLeDiff]
theorem lN_of (n : Nat) (h : n < 2147483648) : (nI n).toInt64 = lN n := nI_l h
theorem sub64 {a b : Nat} (ha : a < 1073741824) (hb : b < 1073741824) : (nI a - nI b).toInt64 = lN a - lN b := by
  apply Int64.toInt_inj.mp
  rw [Int32.toInt_toInt64, pk_sub_toInt ha hb, Int64.toInt_sub, pk_lT (by omega), pk_lT (by omega), fb_bmodL (by omega) (by omega)]
theorem sim_prize (F : Nat) (hF : 1000 ≤ F) {c m : Mem} (h : Rel c m) (p1 p2 p3 p4 : Int32) : Sim (f_X10_prize F c 0 p1 p2 p3 p4) (f_X11_prize F m 50 p1 p2 p3 p4) := by
  have hC := h.1
  have hM := h.2.1
  have h1 := h.thr 0
  obtain ⟨nw, nl, hbk⟩ := h1.2.2.2.2.2.2.1
  obtain ⟨L, N, hcl, Fl, fid, S, hfl⟩ := h1.2.2.2.2.2.2.2
  have hM1 := h1.2.1
  have f1 := hfl.1
  have f3 := hfl.2.2.1
  have b3 := hbk.2.2.1
  have b5 := hbk.2.2.2.2.1
  have b6 := hbk.2.2.2.2.2.1
  have k2 := hcl.2.1
  have k5 := hcl.2.2.2.2.1
  have k6 := hcl.2.2.2.2.2.1
  generalize hm1 : sI m 50 2 0 = m1 at *
  by_cases hn : (p1 < 0 ∨ nI Fl ≤ p1) ∨ (p2 < 0 ∨ nI nl ≤ p2) ∨ ¬ rgI 400 p4
  · have eN := e_askN F hM1 f3 b6 f1 b3 hn
    refine Sim.of (r := -1) (c' := c) (m' := m1) ?_ ?_ h1
    · rcases ix_or p3 (n := N) (by omega) with ⟨b, hb, rfl⟩ | hb
      · simp only [f_X10_prize, e_X1_hasBird, hC, k5, bx_in hb (show N < 2147483648 by omega), e_poN F hC hfl b5 b3 hn, nx_eq, ck_true, br_true, br_false, bd_eq, de_eq, mN_sI_, mK_sI_, mL_sI_, mI_sI_ap, mJ_sI_, mR_sI_, mN_sJ_, mK_sJ_, mL_sJ_, mI_sJ_, mJ_sJ_ap, mR_sJ_, mN_sR_, mK_sR_, mL_sR_, mI_sR_, mJ_sR_, mR_sR_ap, Nat.reduceEqDiff, Nat.reduceAdd, ↓reduceIte, and_true, true_and, and_false, false_and, or_true, true_or, or_false, false_or, not_true_eq_false, not_false_eq_true, i10, i01, ii01, ii02, ii03, ii04, ii05, ii12, ii13, ii14, ii15, ii20, ii21, ii23, ii24, ii25, ii30, ii31, ii32, ii34, ii35, ii40, ii41, ii42, ii43, ii45, ii50, ii51, ii52, ii53, ii54, bi_z, Option.some.injEq, reduceCtorEq, Nat.reduceLeDiff]
      · simp only [f_X10_prize, e_X1_hasBird, hC, k5, bx_out hb, nx_eq, ck_true, br_true, br_false, bd_eq, de_eq, mN_sI_, mK_sI_, mL_sI_, mI_sI_ap, mJ_sI_, mR_sI_, mN_sJ_, mK_sJ_, mL_sJ_, mI_sJ_, mJ_sJ_ap, mR_sJ_, mN_sR_, mK_sR_, mL_sR_, mI_sR_, mJ_sR_, mR_sR_ap, Nat.reduceEqDiff, Nat.reduceAdd, ↓reduceIte, and_true, true_and, and_false, false_and, or_true, true_or, or_false, false_or, not_true_eq_false, not_false_eq_true, i10, i01, ii01, ii02, ii03, ii04, ii05, ii12, ii13, ii14, ii15, ii20, ii21, ii23, ii24, ii25, ii30, ii31, ii32, ii34, ii35, ii40, ii41, ii42, ii43, ii45, ii50, ii51, ii52, ii53, ii54, bi_z, Option.some.injEq, reduceCtorEq, Nat.reduceLeDiff]
    · simp only [f_X11_prize, f_X11_prize_b24, hM, hm1, hM1, eN, nx_eq, ck_true, br_true, br_false, bd_eq, de_eq, mN_sI_, mK_sI_, mL_sI_, mI_sI_ap, mJ_sI_, mR_sI_, mN_sJ_, mK_sJ_, mL_sJ_, mI_sJ_, mJ_sJ_ap, mR_sJ_, mN_sR_, mK_sR_, mL_sR_, mI_sR_, mJ_sR_, mR_sR_ap, Nat.reduceEqDiff, Nat.reduceAdd, ↓reduceIte, and_true, true_and, and_false, false_and, or_true, true_or, or_false, false_or, not_true_eq_false, not_false_eq_true, i10, i01, ii01, ii02, ii03, ii04, ii05, ii12, ii13, ii14, ii15, ii20, ii21, ii23, ii24, ii25, ii30, ii31, ii32, ii34, ii35, ii40, ii41, ii42, ii43, ii45, ii50, ii51, ii52, ii53, ii54, bi_z, Option.some.injEq, reduceCtorEq, Nat.reduceLeDiff]
  · obtain ⟨f, hf, rfl⟩ : ∃ f, f < Fl ∧ p1 = nI f := by
      rcases ix_or p1 (n := Fl) (by omega) with e | e
      · exact e
      · exact absurd (Or.inl e) hn
    obtain ⟨l, hl, rfl⟩ : ∃ l, l < nl ∧ p2 = nI l := by
      rcases ix_or p2 (n := nl) (by omega) with e | e
      · exact e
      · exact absurd (Or.inr (Or.inl e)) hn
    have hd : rgI 400 p4 := Classical.byContradiction fun e => hn (Or.inr (Or.inr e))
    have eA := e_askY F hM1 f3 b6 f1 b3 hf hl hd
    obtain ⟨day, hday, rfl⟩ := rgI_rg (h := 400) (by decide) hd
    rcases ix_or p3 (n := N) (by omega) with ⟨b, hb, rfl⟩ | hb
    · obtain ⟨-, hsF, -, -, -, -, hRD, hRK⟩ := hfl.2.2.2.1 f hf
      obtain ⟨u1, u2, u3, u4, u5, u6, u7, u8, u9, u10⟩ := hsF.purse (show l < 6 by omega)
      obtain ⟨-, d2, d3, d4⟩ := hRK l (by omega)
      have v6 : vp_in (nI (6 * f + l)) 36 := vp_nI (by omega) (by decide)
      have n6 : (nI (6 * f + l)).toNatClampNeg = 6 * f + l := nI_cl (by omega)
      have vb := vp_nI (show b < 24 by omega) (show 24 < 2147483648 by decide)
      have nb := nI_cl (show b < 2147483648 by omega)
      have eBd := e_X11_isBird F m1 50 (by simp only [hM1]) (nI b)
      rw [k6, bx_in hb (show N < 2147483648 by omega)] at eBd
      by_cases hz : mI m1 74 (6 * f + l) = 0
      · obtain ⟨hD, hCF, hMF⟩ := DCM hC hM1 hcl hfl hf
        obtain ⟨st, hst⟩ := hRK.st (show l < 6 by omega)
        obtain ⟨c', m', pz, T, pd, bk, x1, x2, x3, x4, x5, x6, x7, x8, x9, x10, x11⟩ := e_settle F hF (y := 47) hD hCF hMF hcl hbk hRD hl hday (Or.inl rfl) (by simp only [hC]) (by simp only [hC]) (by simp only [hC]) (by simp only [hC]) hst
        have hC' := x3.frK.shC hC
        have hM' := x4.shM hM1
        have hz' : mI c (fid f + (13 + 4 * l)) 2 = 0 := d2.trans hz
        have eP := e_poO F hC hfl b5 b3 hf hl hd hz' hC' x1
        have o5 : mI c' 48 b = nI (pz b) := x5.2.2.2.2.1 b (by omega)
        have o6 : mJ m' 94 b = lN (pz b) := x8.1 b (by omega)
        have pb := x10 b
        refine Sim.of (r := lN (pz b)) (c' := c') (m' := m') ?_ ?_ (h1.wk x3.frK (fun x y1 y2 => x3.2.2.2.2.1 x (by omega) (by omega) (by omega) (by omega)) x4)
        · simp only [f_X10_prize, e_X1_hasBird, hC, k5, bx_in hb (show N < 2147483648 by omega), eP, hC', vb, nb, o5, lN_of (pz b) (by omega), nx_eq, ck_true, br_true, br_false, bd_eq, de_eq, mN_sI_, mK_sI_, mL_sI_, mI_sI_ap, mJ_sI_, mR_sI_, mN_sJ_, mK_sJ_, mL_sJ_, mI_sJ_, mJ_sJ_ap, mR_sJ_, mN_sR_, mK_sR_, mL_sR_, mI_sR_, mJ_sR_, mR_sR_ap, Nat.reduceEqDiff, Nat.reduceAdd, ↓reduceIte, and_true, true_and, and_false, false_and, or_true, true_or, or_false, false_or, not_true_eq_false, not_false_eq_true, i10, i01, ii01, ii02, ii03, ii04, ii05, ii12, ii13, ii14, ii15, ii20, ii21, ii23, ii24, ii25, ii30, ii31, ii32, ii34, ii35, ii40, ii41, ii42, ii43, ii45, ii50, ii51, ii52, ii53, ii54, bi_z, Option.some.injEq, reduceCtorEq, Nat.reduceLeDiff]
        · simp only [f_X11_prize, hM, hm1, hM1, eA, eBd, i6, v6, n6, hz, x2, hM', vb, nb, o6, nx_eq, ck_true, br_true, br_false, bd_eq, de_eq, mN_sI_, mK_sI_, mL_sI_, mI_sI_ap, mJ_sI_, mR_sI_, mN_sJ_, mK_sJ_, mL_sJ_, mI_sJ_, mJ_sJ_ap, mR_sJ_, mN_sR_, mK_sR_, mL_sR_, mI_sR_, mJ_sR_, mR_sR_ap, Nat.reduceEqDiff, Nat.reduceAdd, ↓reduceIte, and_true, true_and, and_false, false_and, or_true, true_or, or_false, false_or, not_true_eq_false, not_false_eq_true, i10, i01, ii01, ii02, ii03, ii04, ii05, ii12, ii13, ii14, ii15, ii20, ii21, ii23, ii24, ii25, ii30, ii31, ii32, ii34, ii35, ii40, ii41, ii42, ii43, ii45, ii50, ii51, ii52, ii53, ii54, bi_z, Option.some.injEq, reduceCtorEq, Nat.reduceLeDiff]
      · have hz1 : mI m1 74 (6 * f + l) = 1 := d3.resolve_left hz
        have hz' : ¬ mI c (fid f + (13 + 4 * l)) 2 = 0 := by rw [d2]; exact hz
        have eP := e_poC F hC hfl b5 b3 hf hl hd hz'
        obtain ⟨q1, -⟩ := d4 hz1
        have v1 : vp_in (nI (144 * f + 24 * l + b)) 864 := vp_nI (by omega) (by decide)
        have n1 : (nI (144 * f + 24 * l + b)).toNatClampNeg = 144 * f + 24 * l + b := nI_cl (by omega)
        refine Sim.of (r := mJ m1 75 (144 * f + 24 * l + b)) (c' := c) (m' := m1) ?_ ?_ h1
        · simp only [f_X10_prize, e_X1_hasBird, hC, k5, bx_in hb (show N < 2147483648 by omega), eP, u7, u8, u9, u10, vb, nb, q1 b (by omega), nx_eq, ck_true, br_true, br_false, bd_eq, de_eq, mN_sI_, mK_sI_, mL_sI_, mI_sI_ap, mJ_sI_, mR_sI_, mN_sJ_, mK_sJ_, mL_sJ_, mI_sJ_, mJ_sJ_ap, mR_sJ_, mN_sR_, mK_sR_, mL_sR_, mI_sR_, mJ_sR_, mR_sR_ap, Nat.reduceEqDiff, Nat.reduceAdd, ↓reduceIte, and_true, true_and, and_false, false_and, or_true, true_or, or_false, false_or, not_true_eq_false, not_false_eq_true, i10, i01, ii01, ii02, ii03, ii04, ii05, ii12, ii13, ii14, ii15, ii20, ii21, ii23, ii24, ii25, ii30, ii31, ii32, ii34, ii35, ii40, ii41, ii42, ii43, ii45, ii50, ii51, ii52, ii53, ii54, bi_z, Option.some.injEq, reduceCtorEq, Nat.reduceLeDiff]
        · simp only [f_X11_prize, hM, hm1, hM1, eA, eBd, i6, v6, n6, hz, i144, v1, n1, nx_eq, ck_true, br_true, br_false, bd_eq, de_eq, mN_sI_, mK_sI_, mL_sI_, mI_sI_ap, mJ_sI_, mR_sI_, mN_sJ_, mK_sJ_, mL_sJ_, mI_sJ_, mJ_sJ_ap, mR_sJ_, mN_sR_, mK_sR_, mL_sR_, mI_sR_, mJ_sR_, mR_sR_ap, Nat.reduceEqDiff, Nat.reduceAdd, ↓reduceIte, and_true, true_and, and_false, false_and, or_true, true_or, or_false, false_or, not_true_eq_false, not_false_eq_true, i10, i01, ii01, ii02, ii03, ii04, ii05, ii12, ii13, ii14, ii15, ii20, ii21, ii23, ii24, ii25, ii30, ii31, ii32, ii34, ii35, ii40, ii41, ii42, ii43, ii45, ii50, ii51, ii52, ii53, ii54, bi_z, Option.some.injEq, reduceCtorEq, Nat.reduceLeDiff]
    · have eBd := e_X11_isBird F m1 50 (by simp only [hM1]) p3
      rw [k6, bx_out hb] at eBd
      refine Sim.of (r := -1) (c' := c) (m' := m1) ?_ ?_ h1
      · simp only [f_X10_prize, e_X1_hasBird, hC, k5, bx_out hb, nx_eq, ck_true, br_true, br_false, bd_eq, de_eq, mN_sI_, mK_sI_, mL_sI_, mI_sI_ap, mJ_sI_, mR_sI_, mN_sJ_, mK_sJ_, mL_sJ_, mI_sJ_, mJ_sJ_ap, mR_sJ_, mN_sR_, mK_sR_, mL_sR_, mI_sR_, mJ_sR_, mR_sR_ap, Nat.reduceEqDiff, Nat.reduceAdd, ↓reduceIte, and_true, true_and, and_false, false_and, or_true, true_or, or_false, false_or, not_true_eq_false, not_false_eq_true, i10, i01, ii01, ii02, ii03, ii04, ii05, ii12, ii13, ii14, ii15, ii20, ii21, ii23, ii24, ii25, ii30, ii31, ii32, ii34, ii35, ii40, ii41, ii42, ii43, ii45, ii50, ii51, ii52, ii53, ii54, bi_z, Option.some.injEq, reduceCtorEq, Nat.reduceLeDiff]
      · simp only [f_X11_prize, f_X11_prize_b24, hM, hm1, hM1, eA, eBd, nx_eq, ck_true, br_true, br_false, bd_eq, de_eq, mN_sI_, mK_sI_, mL_sI_, mI_sI_ap, mJ_sI_, mR_sI_, mN_sJ_, mK_sJ_, mL_sJ_, mI_sJ_, mJ_sJ_ap, mR_sJ_, mN_sR_, mK_sR_, mL_sR_, mI_sR_, mJ_sR_, mR_sR_ap, Nat.reduceEqDiff, Nat.reduceAdd, ↓reduceIte, and_true, true_and, and_false, false_and, or_true, true_or, or_false, false_or, not_true_eq_false, not_false_eq_true, i10, i01, ii01, ii02, ii03, ii04, ii05, ii12, ii13, ii14, ii15, ii20, ii21, ii23, ii24, ii25, ii30, ii31, ii32, ii34, ii35, ii40, ii41, ii42, ii43, ii45, ii50, ii51, ii52, ii53, ii54, bi_z, Option.some.injEq, reduceCtorEq, Nat.reduceLeDiff]
theorem i4 (f b : Nat) : (4 : Int32) * nI f + nI b = nI (4 * f + b) := ixm 4 f b
theorem nI_0123 {w : Nat} (h : w < 4) : w = 0 ∨ w = 1 ∨ w = 2 ∨ w = 3 := by omega
theorem sim_pool (F : Nat) (hF : 1000 ≤ F) {c m : Mem} (h : Rel c m) (p1 p2 p3 p4 : Int32) : Sim (f_X10_pool F c 0 p1 p2 p3 p4) (f_X11_pool F m 50 p1 p2 p3 p4) := by
  have hC := h.1
  have hM := h.2.1
  have h1 := h.thr 0
  obtain ⟨nw, nl, hbk⟩ := h1.2.2.2.2.2.2.1
  obtain ⟨L, N, hcl, Fl, fid, S, hfl⟩ := h1.2.2.2.2.2.2.2
  have hM1 := h1.2.1
  have f1 := hfl.1
  have f3 := hfl.2.2.1
  have b3 := hbk.2.2.1
  have b5 := hbk.2.2.2.2.1
  have b6 := hbk.2.2.2.2.2.1
  generalize hm1 : sI m 50 2 0 = m1 at *
  by_cases hn : (p1 < 0 ∨ nI Fl ≤ p1) ∨ (p2 < 0 ∨ nI nl ≤ p2) ∨ ¬ rgI 400 p3
  · have eN := e_askN F hM1 f3 b6 f1 b3 hn
    refine Sim.of (r := -1) (c' := c) (m' := m1) ?_ ?_ h1
    · simp only [f_X10_pool, hC, e_poN F hC hfl b5 b3 hn, nx_eq, ck_true, br_true, br_false, bd_eq, de_eq, mN_sI_, mK_sI_, mL_sI_, mI_sI_ap, mJ_sI_, mR_sI_, mN_sJ_, mK_sJ_, mL_sJ_, mI_sJ_, mJ_sJ_ap, mR_sJ_, mN_sR_, mK_sR_, mL_sR_, mI_sR_, mJ_sR_, mR_sR_ap, Nat.reduceEqDiff, Nat.reduceAdd, ↓reduceIte, and_true, true_and, and_false, false_and, or_true, true_or, or_false, false_or, not_true_eq_false, not_false_eq_true, i10, i01, ii01, ii02, ii03, ii04, ii05, ii12, ii13, ii14, ii15, ii20, ii21, ii23, ii24, ii25, ii30, ii31, ii32, ii34, ii35, ii40, ii41, ii42, ii43, ii45, ii50, ii51, ii52, ii53, ii54, bi_z, Option.some.injEq, reduceCtorEq, Nat.reduceLeDiff]
    · simp only [f_X11_pool, f_X11_pool_b26, hM, hm1, hM1, eN, nx_eq, ck_true, br_true, br_false, bd_eq, de_eq, mN_sI_, mK_sI_, mL_sI_, mI_sI_ap, mJ_sI_, mR_sI_, mN_sJ_, mK_sJ_, mL_sJ_, mI_sJ_, mJ_sJ_ap, mR_sJ_, mN_sR_, mK_sR_, mL_sR_, mI_sR_, mJ_sR_, mR_sR_ap, Nat.reduceEqDiff, Nat.reduceAdd, ↓reduceIte, and_true, true_and, and_false, false_and, or_true, true_or, or_false, false_or, not_true_eq_false, not_false_eq_true, i10, i01, ii01, ii02, ii03, ii04, ii05, ii12, ii13, ii14, ii15, ii20, ii21, ii23, ii24, ii25, ii30, ii31, ii32, ii34, ii35, ii40, ii41, ii42, ii43, ii45, ii50, ii51, ii52, ii53, ii54, bi_z, Option.some.injEq, reduceCtorEq, Nat.reduceLeDiff]
  · obtain ⟨f, hf, rfl⟩ : ∃ f, f < Fl ∧ p1 = nI f := by
      rcases ix_or p1 (n := Fl) (by omega) with e | e
      · exact e
      · exact absurd (Or.inl e) hn
    obtain ⟨l, hl, rfl⟩ : ∃ l, l < nl ∧ p2 = nI l := by
      rcases ix_or p2 (n := nl) (by omega) with e | e
      · exact e
      · exact absurd (Or.inr (Or.inl e)) hn
    have hd : rgI 400 p3 := Classical.byContradiction fun e => hn (Or.inr (Or.inr e))
    have eA := e_askY F hM1 f3 b6 f1 b3 hf hl hd
    obtain ⟨day, hday, rfl⟩ := rgI_rg (h := 400) (by decide) hd
    obtain ⟨-, hsF, -, -, -, -, hRD, hRK⟩ := hfl.2.2.2.1 f hf
    obtain ⟨u1, u2, u3, u4, u5, u6, u7, u8, u9, u10⟩ := hsF.purse (show l < 6 by omega)
    obtain ⟨-, d2, d3, d4⟩ := hRK l (by omega)
    have v6 : vp_in (nI (6 * f + l)) 36 := vp_nI (by omega) (by decide)
    have n6 : (nI (6 * f + l)).toNatClampNeg = 6 * f + l := nI_cl (by omega)
    by_cases hz : mI m1 74 (6 * f + l) = 0
    · obtain ⟨hD, hCF, hMF⟩ := DCM hC hM1 hcl hfl hf
      obtain ⟨st, hst⟩ := hRK.st (show l < 6 by omega)
      obtain ⟨c', m', pz, T, pd, bk, x1, x2, x3, x4, x5, x6, x7, x8, x9, x10, x11, x12, x13⟩ := e_settle F hF (y := 47) hD hCF hMF hcl hbk hRD hl hday (Or.inl rfl) (by simp only [hC]) (by simp only [hC]) (by simp only [hC]) (by simp only [hC]) hst
      have hC' := x3.frK.shC hC
      have hM' := x4.shM hM1
      have hz' : mI c (fid f + (13 + 4 * l)) 2 = 0 := d2.trans hz
      have eP := e_poO F hC hfl b5 b3 hf hl hd hz' hC' x1
      have told : ∀ x, 33 ≤ x → x ≤ 36 → mI c' x = mI c x := fun x y1 y2 => x3.2.2.2.2.1 x (by omega) (by omega) (by omega) (by omega)
      have o2 : mI c' 47 2 = nI pd := x5.2.2.2.2.2
      obtain ⟨-, q0, q1, q3⟩ := x8
      obtain ⟨y0, y1, y2, y3⟩ := y01
      obtain ⟨w0, w1, w2, w3⟩ := w01
      rcases ix_or p4 (n := 4) (by decide) with ⟨w, hw, rfl⟩ | hw
      · have hR := h1.wk x3.frK told x4
        rcases nI_0123 hw with rfl | rfl | rfl | rfl
        · have a0 : (nI 0 : Int32) = 0 := rfl
          have a1 : ¬ (0 : Int32) < 0 := by decide
          have a2 : (0 : Int32) ≤ 3 := by decide
          refine Sim.of (r := lN T) (c' := c') (m' := m') ?_ ?_ hR
          · simp only [f_X10_pool, hC, eP, hC', f_X3_tell, a0, x6, lN_of T (by omega), nx_eq, ck_true, br_true, br_false, bd_eq, de_eq, mN_sI_, mK_sI_, mL_sI_, mI_sI_ap, mJ_sI_, mR_sI_, mN_sJ_, mK_sJ_, mL_sJ_, mI_sJ_, mJ_sJ_ap, mR_sJ_, mN_sR_, mK_sR_, mL_sR_, mI_sR_, mJ_sR_, mR_sR_ap, Nat.reduceEqDiff, Nat.reduceAdd, ↓reduceIte, and_true, true_and, and_false, false_and, or_true, true_or, or_false, false_or, not_true_eq_false, not_false_eq_true, i10, i01, ii01, ii02, ii03, ii04, ii05, ii12, ii13, ii14, ii15, ii20, ii21, ii23, ii24, ii25, ii30, ii31, ii32, ii34, ii35, ii40, ii41, ii42, ii43, ii45, ii50, ii51, ii52, ii53, ii54, bi_z, Option.some.injEq, reduceCtorEq, Nat.reduceLeDiff]
          · simp only [f_X11_pool, hM, hm1, hM1, eA, a0, a1, a2, i6, v6, n6, hz, x2, hM', w0, y0, q0, nx_eq, ck_true, br_true, br_false, bd_eq, de_eq, mN_sI_, mK_sI_, mL_sI_, mI_sI_ap, mJ_sI_, mR_sI_, mN_sJ_, mK_sJ_, mL_sJ_, mI_sJ_, mJ_sJ_ap, mR_sJ_, mN_sR_, mK_sR_, mL_sR_, mI_sR_, mJ_sR_, mR_sR_ap, Nat.reduceEqDiff, Nat.reduceAdd, ↓reduceIte, and_true, true_and, and_false, false_and, or_true, true_or, or_false, false_or, not_true_eq_false, not_false_eq_true, i10, i01, ii01, ii02, ii03, ii04, ii05, ii12, ii13, ii14, ii15, ii20, ii21, ii23, ii24, ii25, ii30, ii31, ii32, ii34, ii35, ii40, ii41, ii42, ii43, ii45, ii50, ii51, ii52, ii53, ii54, bi_z, Option.some.injEq, reduceCtorEq, Nat.reduceLeDiff]
        · have a0 : (nI 1 : Int32) = 1 := rfl
          have a1 : ¬ (1 : Int32) < 0 := by decide
          have a2 : (1 : Int32) ≤ 3 := by decide
          refine Sim.of (r := lN pd) (c' := c') (m' := m') ?_ ?_ hR
          · simp only [f_X10_pool, hC, eP, hC', f_X3_tell, a0, o2, lN_of pd (by omega), nx_eq, ck_true, br_true, br_false, bd_eq, de_eq, mN_sI_, mK_sI_, mL_sI_, mI_sI_ap, mJ_sI_, mR_sI_, mN_sJ_, mK_sJ_, mL_sJ_, mI_sJ_, mJ_sJ_ap, mR_sJ_, mN_sR_, mK_sR_, mL_sR_, mI_sR_, mJ_sR_, mR_sR_ap, Nat.reduceEqDiff, Nat.reduceAdd, ↓reduceIte, and_true, true_and, and_false, false_and, or_true, true_or, or_false, false_or, not_true_eq_false, not_false_eq_true, i10, i01, ii01, ii02, ii03, ii04, ii05, ii12, ii13, ii14, ii15, ii20, ii21, ii23, ii24, ii25, ii30, ii31, ii32, ii34, ii35, ii40, ii41, ii42, ii43, ii45, ii50, ii51, ii52, ii53, ii54, bi_z, Option.some.injEq, reduceCtorEq, Nat.reduceLeDiff]
          · simp only [f_X11_pool, hM, hm1, hM1, eA, a0, a1, a2, i6, v6, n6, hz, x2, hM', w1, y1, q1, nx_eq, ck_true, br_true, br_false, bd_eq, de_eq, mN_sI_, mK_sI_, mL_sI_, mI_sI_ap, mJ_sI_, mR_sI_, mN_sJ_, mK_sJ_, mL_sJ_, mI_sJ_, mJ_sJ_ap, mR_sJ_, mN_sR_, mK_sR_, mL_sR_, mI_sR_, mJ_sR_, mR_sR_ap, Nat.reduceEqDiff, Nat.reduceAdd, ↓reduceIte, and_true, true_and, and_false, false_and, or_true, true_or, or_false, false_or, not_true_eq_false, not_false_eq_true, i10, i01, ii01, ii02, ii03, ii04, ii05, ii12, ii13, ii14, ii15, ii20, ii21, ii23, ii24, ii25, ii30, ii31, ii32, ii34, ii35, ii40, ii41, ii42, ii43, ii45, ii50, ii51, ii52, ii53, ii54, bi_z, Option.some.injEq, reduceCtorEq, Nat.reduceLeDiff]
        · have a0 : (nI 2 : Int32) = 2 := rfl
          have a1 : ¬ (2 : Int32) < 0 := by decide
          have a2 : (2 : Int32) ≤ 3 := by decide
          refine Sim.of (r := lN T - lN pd) (c' := c') (m' := m') ?_ ?_ hR
          · simp only [f_X10_pool, hC, eP, hC', f_X3_tell, a0, x6, o2, sub64 (show T < 1073741824 by omega) (show pd < 1073741824 by omega), nx_eq, ck_true, br_true, br_false, bd_eq, de_eq, mN_sI_, mK_sI_, mL_sI_, mI_sI_ap, mJ_sI_, mR_sI_, mN_sJ_, mK_sJ_, mL_sJ_, mI_sJ_, mJ_sJ_ap, mR_sJ_, mN_sR_, mK_sR_, mL_sR_, mI_sR_, mJ_sR_, mR_sR_ap, Nat.reduceEqDiff, Nat.reduceAdd, ↓reduceIte, and_true, true_and, and_false, false_and, or_true, true_or, or_false, false_or, not_true_eq_false, not_false_eq_true, i10, i01, ii01, ii02, ii03, ii04, ii05, ii12, ii13, ii14, ii15, ii20, ii21, ii23, ii24, ii25, ii30, ii31, ii32, ii34, ii35, ii40, ii41, ii42, ii43, ii45, ii50, ii51, ii52, ii53, ii54, bi_z, Option.some.injEq, reduceCtorEq, Nat.reduceLeDiff]
          · simp only [f_X11_pool, hM, hm1, hM1, eA, a0, a1, a2, i6, v6, n6, hz, x2, hM', w2, y2, x9, nx_eq, ck_true, br_true, br_false, bd_eq, de_eq, mN_sI_, mK_sI_, mL_sI_, mI_sI_ap, mJ_sI_, mR_sI_, mN_sJ_, mK_sJ_, mL_sJ_, mI_sJ_, mJ_sJ_ap, mR_sJ_, mN_sR_, mK_sR_, mL_sR_, mI_sR_, mJ_sR_, mR_sR_ap, Nat.reduceEqDiff, Nat.reduceAdd, ↓reduceIte, and_true, true_and, and_false, false_and, or_true, true_or, or_false, false_or, not_true_eq_false, not_false_eq_true, i10, i01, ii01, ii02, ii03, ii04, ii05, ii12, ii13, ii14, ii15, ii20, ii21, ii23, ii24, ii25, ii30, ii31, ii32, ii34, ii35, ii40, ii41, ii42, ii43, ii45, ii50, ii51, ii52, ii53, ii54, bi_z, Option.some.injEq, reduceCtorEq, Nat.reduceLeDiff]
        · have a0 : (nI 3 : Int32) = 3 := rfl
          have a1 : ¬ (3 : Int32) < 0 := by decide
          have a2 : (3 : Int32) ≤ 3 := by decide
          refine Sim.of (r := lN bk) (c' := c') (m' := m') ?_ ?_ hR
          · simp only [f_X10_pool, hC, eP, hC', f_X3_tell, a0, x7, lN_of bk (by omega), nx_eq, ck_true, br_true, br_false, bd_eq, de_eq, mN_sI_, mK_sI_, mL_sI_, mI_sI_ap, mJ_sI_, mR_sI_, mN_sJ_, mK_sJ_, mL_sJ_, mI_sJ_, mJ_sJ_ap, mR_sJ_, mN_sR_, mK_sR_, mL_sR_, mI_sR_, mJ_sR_, mR_sR_ap, Nat.reduceEqDiff, Nat.reduceAdd, ↓reduceIte, and_true, true_and, and_false, false_and, or_true, true_or, or_false, false_or, not_true_eq_false, not_false_eq_true, i10, i01, ii01, ii02, ii03, ii04, ii05, ii12, ii13, ii14, ii15, ii20, ii21, ii23, ii24, ii25, ii30, ii31, ii32, ii34, ii35, ii40, ii41, ii42, ii43, ii45, ii50, ii51, ii52, ii53, ii54, bi_z, Option.some.injEq, reduceCtorEq, Nat.reduceLeDiff]
          · simp only [f_X11_pool, hM, hm1, hM1, eA, a0, a1, a2, i6, v6, n6, hz, x2, hM', w3, y3, q3, nx_eq, ck_true, br_true, br_false, bd_eq, de_eq, mN_sI_, mK_sI_, mL_sI_, mI_sI_ap, mJ_sI_, mR_sI_, mN_sJ_, mK_sJ_, mL_sJ_, mI_sJ_, mJ_sJ_ap, mR_sJ_, mN_sR_, mK_sR_, mL_sR_, mI_sR_, mJ_sR_, mR_sR_ap, Nat.reduceEqDiff, Nat.reduceAdd, ↓reduceIte, and_true, true_and, and_false, false_and, or_true, true_or, or_false, false_or, not_true_eq_false, not_false_eq_true, i10, i01, ii01, ii02, ii03, ii04, ii05, ii12, ii13, ii14, ii15, ii20, ii21, ii23, ii24, ii25, ii30, ii31, ii32, ii34, ii35, ii40, ii41, ii42, ii43, ii45, ii50, ii51, ii52, ii53, ii54, bi_z, Option.some.injEq, reduceCtorEq, Nat.reduceLeDiff]
      · have nw0 : ¬ p4 = 0 := fun e => by rcases hw with q | q <;> rw [e] at q <;> exact absurd q (by decide)
        have nw1 : ¬ p4 = 1 := fun e => by rcases hw with q | q <;> rw [e] at q <;> exact absurd q (by decide)
        have nw2 : ¬ p4 = 2 := fun e => by rcases hw with q | q <;> rw [e] at q <;> exact absurd q (by decide)
        have nw3 : ¬ p4 = 3 := fun e => by rcases hw with q | q <;> rw [e] at q <;> exact absurd q (by decide)
        have m1e : ((-1 : Int32)).toInt64 = -1 := by decide
        refine Sim.of (r := -1) (c' := c') (m' := m1) ?_ ?_ (h1.wk x3.frK told (frR.rf m1))
        · simp only [f_X10_pool, hC, eP, hC', f_X3_tell, nw0, nw1, nw2, nw3, m1e, nx_eq, ck_true, br_true, br_false, bd_eq, de_eq, mN_sI_, mK_sI_, mL_sI_, mI_sI_ap, mJ_sI_, mR_sI_, mN_sJ_, mK_sJ_, mL_sJ_, mI_sJ_, mJ_sJ_ap, mR_sJ_, mN_sR_, mK_sR_, mL_sR_, mI_sR_, mJ_sR_, mR_sR_ap, Nat.reduceEqDiff, Nat.reduceAdd, ↓reduceIte, and_true, true_and, and_false, false_and, or_true, true_or, or_false, false_or, not_true_eq_false, not_false_eq_true, i10, i01, ii01, ii02, ii03, ii04, ii05, ii12, ii13, ii14, ii15, ii20, ii21, ii23, ii24, ii25, ii30, ii31, ii32, ii34, ii35, ii40, ii41, ii42, ii43, ii45, ii50, ii51, ii52, ii53, ii54, bi_z, Option.some.injEq, reduceCtorEq, Nat.reduceLeDiff]
        · by_cases q : p4 < 0
          · simp only [f_X11_pool, f_X11_pool_b26, hM, hm1, hM1, eA, q, nx_eq, ck_true, br_true, br_false, bd_eq, de_eq, mN_sI_, mK_sI_, mL_sI_, mI_sI_ap, mJ_sI_, mR_sI_, mN_sJ_, mK_sJ_, mL_sJ_, mI_sJ_, mJ_sJ_ap, mR_sJ_, mN_sR_, mK_sR_, mL_sR_, mI_sR_, mJ_sR_, mR_sR_ap, Nat.reduceEqDiff, Nat.reduceAdd, ↓reduceIte, and_true, true_and, and_false, false_and, or_true, true_or, or_false, false_or, not_true_eq_false, not_false_eq_true, i10, i01, ii01, ii02, ii03, ii04, ii05, ii12, ii13, ii14, ii15, ii20, ii21, ii23, ii24, ii25, ii30, ii31, ii32, ii34, ii35, ii40, ii41, ii42, ii43, ii45, ii50, ii51, ii52, ii53, ii54, bi_z, Option.some.injEq, reduceCtorEq, Nat.reduceLeDiff]
          · have q2 : ¬ p4 ≤ (3 : Int32) := fun z => by
              have z2 : (4 : Int32) ≤ p4 := hw.resolve_left q
              exact absurd (Int32.le_trans z2 z) (by decide)
            simp only [f_X11_pool, f_X11_pool_b26, hM, hm1, hM1, eA, q, q2, nx_eq, ck_true, br_true, br_false, bd_eq, de_eq, mN_sI_, mK_sI_, mL_sI_, mI_sI_ap, mJ_sI_, mR_sI_, mN_sJ_, mK_sJ_, mL_sJ_, mI_sJ_, mJ_sJ_ap, mR_sJ_, mN_sR_, mK_sR_, mL_sR_, mI_sR_, mJ_sR_, mR_sR_ap, Nat.reduceEqDiff, Nat.reduceAdd, ↓reduceIte, and_true, true_and, and_false, false_and, or_true, true_or, or_false, false_or, not_true_eq_false, not_false_eq_true, i10, i01, ii01, ii02, ii03, ii04, ii05, ii12, ii13, ii14, ii15, ii20, ii21, ii23, ii24, ii25, ii30, ii31, ii32, ii34, ii35, ii40, ii41, ii42, ii43, ii45, ii50, ii51, ii52, ii53, ii54, bi_z, Option.some.injEq, reduceCtorEq, Nat.reduceLeDiff]
    · have hz1 : mI m1 74 (6 * f + l) = 1 := d3.resolve_left hz
      have hz' : ¬ mI c (fid f + (13 + 4 * l)) 2 = 0 := by rw [d2]; exact hz
      have eP := e_poC F hC hfl b5 b3 hf hl hd hz'
      obtain ⟨-, q0, q1, q2, q3⟩ := d4 hz1
      rcases ix_or p4 (n := 4) (by decide) with ⟨w, hw, rfl⟩ | hw
      · have v1 : vp_in (nI (4 * (6 * f + l) + w)) 144 := vp_nI (by omega) (by decide)
        have n1 : (nI (4 * (6 * f + l) + w)).toNatClampNeg = 4 * (6 * f + l) + w := nI_cl (by omega)
        have a1 : ¬ nI w < 0 := nI_pos (by omega)
        have a2 : nI w ≤ (3 : Int32) := nI_le (b := 3) (by omega) (by decide)
        refine Sim.of (r := mJ m1 76 (4 * (6 * f + l) + w)) (c' := c) (m' := m1) ?_ ?_ h1
        · rcases nI_0123 hw with rfl | rfl | rfl | rfl
          · have a0 : (nI 0 : Int32) = 0 := rfl
            simp only [f_X10_pool, hC, eP, u7, f_X3_tell, a0, q0, Nat.add_zero, nx_eq, ck_true, br_true, br_false, bd_eq, de_eq, mN_sI_, mK_sI_, mL_sI_, mI_sI_ap, mJ_sI_, mR_sI_, mN_sJ_, mK_sJ_, mL_sJ_, mI_sJ_, mJ_sJ_ap, mR_sJ_, mN_sR_, mK_sR_, mL_sR_, mI_sR_, mJ_sR_, mR_sR_ap, Nat.reduceEqDiff, Nat.reduceAdd, ↓reduceIte, and_true, true_and, and_false, false_and, or_true, true_or, or_false, false_or, not_true_eq_false, not_false_eq_true, i10, i01, ii01, ii02, ii03, ii04, ii05, ii12, ii13, ii14, ii15, ii20, ii21, ii23, ii24, ii25, ii30, ii31, ii32, ii34, ii35, ii40, ii41, ii42, ii43, ii45, ii50, ii51, ii52, ii53, ii54, bi_z, Option.some.injEq, reduceCtorEq, Nat.reduceLeDiff]
          · have a0 : (nI 1 : Int32) = 1 := rfl
            simp only [f_X10_pool, hC, eP, u7, f_X3_tell, a0, q1, nx_eq, ck_true, br_true, br_false, bd_eq, de_eq, mN_sI_, mK_sI_, mL_sI_, mI_sI_ap, mJ_sI_, mR_sI_, mN_sJ_, mK_sJ_, mL_sJ_, mI_sJ_, mJ_sJ_ap, mR_sJ_, mN_sR_, mK_sR_, mL_sR_, mI_sR_, mJ_sR_, mR_sR_ap, Nat.reduceEqDiff, Nat.reduceAdd, ↓reduceIte, and_true, true_and, and_false, false_and, or_true, true_or, or_false, false_or, not_true_eq_false, not_false_eq_true, i10, i01, ii01, ii02, ii03, ii04, ii05, ii12, ii13, ii14, ii15, ii20, ii21, ii23, ii24, ii25, ii30, ii31, ii32, ii34, ii35, ii40, ii41, ii42, ii43, ii45, ii50, ii51, ii52, ii53, ii54, bi_z, Option.some.injEq, reduceCtorEq, Nat.reduceLeDiff]
          · have a0 : (nI 2 : Int32) = 2 := rfl
            simp only [f_X10_pool, hC, eP, u7, f_X3_tell, a0, q2, nx_eq, ck_true, br_true, br_false, bd_eq, de_eq, mN_sI_, mK_sI_, mL_sI_, mI_sI_ap, mJ_sI_, mR_sI_, mN_sJ_, mK_sJ_, mL_sJ_, mI_sJ_, mJ_sJ_ap, mR_sJ_, mN_sR_, mK_sR_, mL_sR_, mI_sR_, mJ_sR_, mR_sR_ap, Nat.reduceEqDiff, Nat.reduceAdd, ↓reduceIte, and_true, true_and, and_false, false_and, or_true, true_or, or_false, false_or, not_true_eq_false, not_false_eq_true, i10, i01, ii01, ii02, ii03, ii04, ii05, ii12, ii13, ii14, ii15, ii20, ii21, ii23, ii24, ii25, ii30, ii31, ii32, ii34, ii35, ii40, ii41, ii42, ii43, ii45, ii50, ii51, ii52, ii53, ii54, bi_z, Option.some.injEq, reduceCtorEq, Nat.reduceLeDiff]
          · have a0 : (nI 3 : Int32) = 3 := rfl
            simp only [f_X10_pool, hC, eP, u7, f_X3_tell, a0, q3, nx_eq, ck_true, br_true, br_false, bd_eq, de_eq, mN_sI_, mK_sI_, mL_sI_, mI_sI_ap, mJ_sI_, mR_sI_, mN_sJ_, mK_sJ_, mL_sJ_, mI_sJ_, mJ_sJ_ap, mR_sJ_, mN_sR_, mK_sR_, mL_sR_, mI_sR_, mJ_sR_, mR_sR_ap, Nat.reduceEqDiff, Nat.reduceAdd, ↓reduceIte, and_true, true_and, and_false, false_and, or_true, true_or, or_false, false_or, not_true_eq_false, not_false_eq_true, i10, i01, ii01, ii02, ii03, ii04, ii05, ii12, ii13, ii14, ii15, ii20, ii21, ii23, ii24, ii25, ii30, ii31, ii32, ii34, ii35, ii40, ii41, ii42, ii43, ii45, ii50, ii51, ii52, ii53, ii54, bi_z, Option.some.injEq, reduceCtorEq, Nat.reduceLeDiff]
        · simp only [f_X11_pool, hM, hm1, hM1, eA, a1, a2, i6, v6, n6, hz, i4, v1, n1, nx_eq, ck_true, br_true, br_false, bd_eq, de_eq, mN_sI_, mK_sI_, mL_sI_, mI_sI_ap, mJ_sI_, mR_sI_, mN_sJ_, mK_sJ_, mL_sJ_, mI_sJ_, mJ_sJ_ap, mR_sJ_, mN_sR_, mK_sR_, mL_sR_, mI_sR_, mJ_sR_, mR_sR_ap, Nat.reduceEqDiff, Nat.reduceAdd, ↓reduceIte, and_true, true_and, and_false, false_and, or_true, true_or, or_false, false_or, not_true_eq_false, not_false_eq_true, i10, i01, ii01, ii02, ii03, ii04, ii05, ii12, ii13, ii14, ii15, ii20, ii21, ii23, ii24, ii25, ii30, ii31, ii32, ii34, ii35, ii40, ii41, ii42, ii43, ii45, ii50, ii51, ii52, ii53, ii54, bi_z, Option.some.injEq, reduceCtorEq, Nat.reduceLeDiff]
      · have nw0 : ¬ p4 = 0 := fun e => by rcases hw with q | q <;> rw [e] at q <;> exact absurd q (by decide)
        have nw1 : ¬ p4 = 1 := fun e => by rcases hw with q | q <;> rw [e] at q <;> exact absurd q (by decide)
        have nw2 : ¬ p4 = 2 := fun e => by rcases hw with q | q <;> rw [e] at q <;> exact absurd q (by decide)
        have nw3 : ¬ p4 = 3 := fun e => by rcases hw with q | q <;> rw [e] at q <;> exact absurd q (by decide)
        have m1e : ((-1 : Int32)).toInt64 = -1 := by decide
        refine Sim.of (r := -1) (c' := c) (m' := m1) ?_ ?_ h1
        · simp only [f_X10_pool, hC, eP, u7, f_X3_tell, nw0, nw1, nw2, nw3, m1e, nx_eq, ck_true, br_true, br_false, bd_eq, de_eq, mN_sI_, mK_sI_, mL_sI_, mI_sI_ap, mJ_sI_, mR_sI_, mN_sJ_, mK_sJ_, mL_sJ_, mI_sJ_, mJ_sJ_ap, mR_sJ_, mN_sR_, mK_sR_, mL_sR_, mI_sR_, mJ_sR_, mR_sR_ap, Nat.reduceEqDiff, Nat.reduceAdd, ↓reduceIte, and_true, true_and, and_false, false_and, or_true, true_or, or_false, false_or, not_true_eq_false, not_false_eq_true, i10, i01, ii01, ii02, ii03, ii04, ii05, ii12, ii13, ii14, ii15, ii20, ii21, ii23, ii24, ii25, ii30, ii31, ii32, ii34, ii35, ii40, ii41, ii42, ii43, ii45, ii50, ii51, ii52, ii53, ii54, bi_z, Option.some.injEq, reduceCtorEq, Nat.reduceLeDiff]
        · by_cases q : p4 < 0
          · simp only [f_X11_pool, f_X11_pool_b26, hM, hm1, hM1, eA, q, nx_eq, ck_true, br_true, br_false, bd_eq, de_eq, mN_sI_, mK_sI_, mL_sI_, mI_sI_ap, mJ_sI_, mR_sI_, mN_sJ_, mK_sJ_, mL_sJ_, mI_sJ_, mJ_sJ_ap, mR_sJ_, mN_sR_, mK_sR_, mL_sR_, mI_sR_, mJ_sR_, mR_sR_ap, Nat.reduceEqDiff, Nat.reduceAdd, ↓reduceIte, and_true, true_and, and_false, false_and, or_true, true_or, or_false, false_or, not_true_eq_false, not_false_eq_true, i10, i01, ii01, ii02, ii03, ii04, ii05, ii12, ii13, ii14, ii15, ii20, ii21, ii23, ii24, ii25, ii30, ii31, ii32, ii34, ii35, ii40, ii41, ii42, ii43, ii45, ii50, ii51, ii52, ii53, ii54, bi_z, Option.some.injEq, reduceCtorEq, Nat.reduceLeDiff]
          · have q2 : ¬ p4 ≤ (3 : Int32) := fun z => by
              have z2 : (4 : Int32) ≤ p4 := hw.resolve_left q
              exact absurd (Int32.le_trans z2 z) (by decide)
            simp only [f_X11_pool, f_X11_pool_b26, hM, hm1, hM1, eA, q, q2, nx_eq, ck_true, br_true, br_false, bd_eq, de_eq, mN_sI_, mK_sI_, mL_sI_, mI_sI_ap, mJ_sI_, mR_sI_, mN_sJ_, mK_sJ_, mL_sJ_, mI_sJ_, mJ_sJ_ap, mR_sJ_, mN_sR_, mK_sR_, mL_sR_, mI_sR_, mJ_sR_, mR_sR_ap, Nat.reduceEqDiff, Nat.reduceAdd, ↓reduceIte, and_true, true_and, and_false, false_and, or_true, true_or, or_false, false_or, not_true_eq_false, not_false_eq_true, i10, i01, ii01, ii02, ii03, ii04, ii05, ii12, ii13, ii14, ii15, ii20, ii21, ii23, ii24, ii25, ii30, ii31, ii32, ii34, ii35, ii40, ii41, ii42, ii43, ii45, ii50, ii51, ii52, ii53, ii54, bi_z, Option.some.injEq, reduceCtorEq, Nat.reduceLeDiff]
