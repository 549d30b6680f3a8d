/-! a whole ranking -/
def frY (z : Nat) (c c' : Mem) : Prop := mK c' = mK c ∧ mL c' = mL c ∧ mR c' = mR c ∧ mN c' = mN c ∧ (∀ x, x ≠ 49 → x < z ∨ z + 7 ≤ x → mI c' x = mI c x) ∧ ∀ x, x < z ∨ z + 7 ≤ x → mJ c' x = mJ c x
theorem frY.tr {z : Nat} {a b c : Mem} (h : frY z a b) (g : frY z b c) : frY z a c := ⟨g.1.trans h.1, g.2.1.trans h.2.1, g.2.2.1.trans h.2.2.1, g.2.2.2.1.trans h.2.2.2.1, fun x h0 hx => (g.2.2.2.2.1 x h0 hx).trans (h.2.2.2.2.1 x h0 hx), fun x hx => (g.2.2.2.2.2 x hx).trans (h.2.2.2.2.2 x hx)⟩
theorem frZ.frY {z : Nat} {c c' : Mem} (h : frZ z c c') : frY z c c' := ⟨h.1, h.2.1, h.2.2.1, h.2.2.2.1, fun x _ hx => h.2.2.2.2.1 x hx, h.2.2.2.2.2⟩
theorem frY.frK {z : Nat} {c c' : Mem} (h : frY z c c') (hz : z = 33 ∨ z = 40) : frK c c' := ⟨h.1, h.2.1, h.2.2.1, h.2.2.2.1, fun x hx => h.2.2.2.2.1 x (by omega) (by omega), fun x hx => h.2.2.2.2.2 x (by omega)⟩
theorem frY_49 (z : Nat) (c : Mem) (g : Nat → Int32) : frY z c (wI c 49 g) := ⟨rfl, rfl, rfl, rfl, fun x h0 hx => mI_wI_o h0, fun _ _ => rfl⟩
theorem e_untilOf (F : Nat) {c : Mem} (hC : shC c) {nl l : Nat} (h9 : mI c 17 9 = nI nl) (hn : nl ≤ 6) (hl : l < nl) : f_X0_untilOf F c 17 (nI l) = some (mI c 19 l, c) := by
  have vl1 := vp_nI (show l < 6 by omega) (show 6 < 2147483648 by decide)
  have nl1 := nI_cl (show l < 2147483648 by omega)
  simp only [f_X0_untilOf, e_X0_hasList, hC, h9, bx_in hl (show nl < 2147483648 by omega), vl1, nl1, nx_eq, ck_true, br_true, br_false, bd_eq, de_eq, mN_sI_, mK_sI_, mL_sI_, mI_sI_ap, mJ_sI_, mR_sI_, mN_sJ_, mK_sJ_, mL_sJ_, mI_sJ_, mJ_sJ_ap, mR_sJ_, mN_sR_, mK_sR_, mL_sR_, mI_sR_, mJ_sR_, mR_sR_ap, Nat.reduceEqDiff, Nat.reduceAdd, ↓reduceIte, and_true, true_and, and_false, false_and, or_true, true_or, or_false, false_or, not_true_eq_false, not_false_eq_true, i10, i01, ii01, ii02, ii03, ii04, ii05, ii12, ii13, ii14, ii15, ii20, ii21, ii23, ii24, ii25, ii30, ii31, ii32, ii34, ii35, ii40, ii41, ii42, ii43, ii45, ii50, ii51, ii52, ii53, ii54, bi_z, Option.some.injEq, reduceCtorEq, Nat.reduceLeDiff]
theorem e_mostOf (F : Nat) {c : Mem} (hC : shC c) {nl l : Nat} (h9 : mI c 17 9 = nI nl) (hn : nl ≤ 6) (hl : l < nl) : f_X0_mostOf F c 17 (nI l) = some (mI c 18 l, c) := by
  have vl1 := vp_nI (show l < 6 by omega) (show 6 < 2147483648 by decide)
  have nl1 := nI_cl (show l < 2147483648 by omega)
  simp only [f_X0_mostOf, e_X0_hasList, hC, h9, bx_in hl (show nl < 2147483648 by omega), vl1, nl1, nx_eq, ck_true, br_true, br_false, bd_eq, de_eq, mN_sI_, mK_sI_, mL_sI_, mI_sI_ap, mJ_sI_, mR_sI_, mN_sJ_, mK_sJ_, mL_sJ_, mI_sJ_, mJ_sJ_ap, mR_sJ_, mN_sR_, mK_sR_, mL_sR_, mI_sR_, mJ_sR_, mR_sR_ap, Nat.reduceEqDiff, Nat.reduceAdd, ↓reduceIte, and_true, true_and, and_false, false_and, or_true, true_or, or_false, false_or, not_true_eq_false, not_false_eq_true, i10, i01, ii01, ii02, ii03, ii04, ii05, ii12, ii13, ii14, ii15, ii20, ii21, ii23, ii24, ii25, ii30, ii31, ii32, ii34, ii35, ii40, ii41, ii42, ii43, ii45, ii50, ii51, ii52, ii53, ii54, bi_z, Option.some.injEq, reduceCtorEq, Nat.reduceLeDiff]
/-- what a ranking and the reference's line tell -/
def RNK (d : Mem) (f S N last day : Nat) (c m : Mem) (z n : Nat) (ln : Nat → Nat) : Prop :=
  last ≤ 40000 ∧ n ≤ 24 ∧ mI c z 6 = nI n ∧ mI m 50 60 = nI n ∧ (∀ i, i < n → ent d f S N last day c m z i (ln i)) ∧ (∀ i, i < n → mI c (z + 3) i = nI (plN d f S last day ln i) ∧ mI m 92 i = nI (plN d f S last day ln i)) ∧ DST n ln ∧ SRT d f S last day n ln ∧ BST d m f S N last day
theorem Rclub.fr {c m c' m' : Mem} {L N : Nat} (h : Rclub c m L N) (hc : frK c c') (hm : frR m m') : Rclub c' m' L N := h.cg (fun x _ _ => hc.2.2.2.2.1 x (by omega)) (fun x _ _ => hm.2.2.2.1 x (by omega) (by omega)) (hm.2.2.2.2.1 3 (by decide)) (hm.2.2.2.2.1 6 (by decide))
theorem Rbook.fr {c m c' m' : Mem} {nw nl : Nat} (h : Rbook c m nw nl) (hc : frK c c') (hm : frR m m') : Rbook c' m' nw nl := h.cg (fun x _ _ => hc.2.2.2.2.1 x (by omega)) (fun x _ _ => hm.2.2.2.1 x (by omega) (by omega)) (hm.2.2.2.2.1 31 (by decide)) (hm.2.2.2.2.1 32 (by decide))
theorem RfD.fr {c m c' m' : Mem} {f q : Nat} (h : RfD c m f q) (hq : 97 ≤ q) (hc : frK c c') (hm : frR m m') : RfD c' m' f q := h.cg (hc.2.2.2.2.1 _ (by omega)) (hc.2.2.2.2.1 _ (by omega)) (fun x b _ _ _ => by rw [hm.2.2.2.1 x (by omega) (by omega)])
theorem e_rank (F : Nat) (hF : 1000 ≤ F) {d c m : Mem} {f q S L N nw nl l day z : Nat} (hz : z = 33 ∨ z = 40) (hD : DF d f S L N) (hCF : CF d c f q S L N) (hMF : MF d m f S N) (hcl : Rclub c m L N) (hbk : Rbook c m nw nl) (hRD : RfD c m f q) (hll : l < nl) (hd : day ≤ 400) :
    ∃ c' m' n ln, f_X10_rankInto F c 0 (some z) (some q) (nI l) (nI day) = some ((), c') ∧ f_X11_results F m 50 (nI f) (nI l) (nI day) = some ((), m') ∧ frY z c c' ∧ frR m m' ∧ RNK d f S N (zlast d f (mI c 19 l)) day c' m' z n ln := by
  have q97 := hCF.2.2.1
  have hll2 := zlast_le hD (mI c 19 l)
  -- the class's ranking is emptied
  have fz1 : frZ z c (sI c z 6 0) := frZ.sI (by omega) (by omega)
  have kz : mK c z = 6 := (hCF.1.rk hz).1
  have hCF1 := hCF.cg (fz1.frK hz)
  have hbk1 := hbk.fr (fz1.frK hz) (frR.rf m)
  have e19 : mI (sI c z 6 0) 19 l = mI c 19 l := by rw [mI_sI_o (by omega)]
  have c16 : mI (sI c z 6 0) z 6 = 0 := mI_sI_e
  have hE : f_X5_empty F c z = some ((), sI c z 6 0) := by simp only [f_X5_empty, kz, nx_eq, ck_true, br_true, br_false, bd_eq, de_eq, mN_sI_, mK_sI_, mL_sI_, mI_sI_ap, mJ_sI_, mR_sI_, mN_sJ_, mK_sJ_, mL_sJ_, mI_sJ_, mJ_sJ_ap, mR_sJ_, mN_sR_, mK_sR_, mL_sR_, mI_sR_, mJ_sR_, mR_sR_ap, Nat.reduceEqDiff, Nat.reduceAdd, ↓reduceIte, and_true, true_and, and_false, false_and, or_true, true_or, or_false, false_or, not_true_eq_false, not_false_eq_true, i10, i01, ii01, ii02, ii03, ii04, ii05, ii12, ii13, ii14, ii15, ii20, ii21, ii23, ii24, ii25, ii30, ii31, ii32, ii34, ii35, ii40, ii41, ii42, ii43, ii45, ii50, ii51, ii52, ii53, ii54, bi_z, Option.some.injEq, reduceCtorEq, Nat.reduceLeDiff]
  generalize sI c z 6 0 = c1 at *
  obtain ⟨b1, b2, b3, b4, b5, b6, b7⟩ := id hbk1
  obtain ⟨-, ⟨u1, u2⟩, -⟩ := b7 l hll
  have u2' : mI c1 19 l = -1 ∨ rg 99999 (mI c1 19 l) := by rw [u1]; exact u2
  have eU := e_untilOf F hCF1.1 b5 b3 hll
  obtain ⟨g, eg, hg⟩ := e_findEarliest F (by omega) hD hCF1 u2' hd
  obtain ⟨m1, em, hFD⟩ := e_find F (by omega) hD hMF u2' hd b4 b1 (show l < 6 by omega) u1.symm
  rw [e19] at hg hFD
  have fy2 : frY z c1 (wI c1 49 g) := frY_49 z c1 g
  have k49 : ∀ b, b < 24 → mI (wI c1 49 g) 49 b = enc (sk d f S (zlast d f (mI c 19 l)) day b) := fun b hb => by rw [mI_wI_e]; exact hg b hb
  have c26 : mI (wI c1 49 g) z 6 = nI 0 := by rw [mI_wI_o (by omega)]; exact c16
  have fy2' := fz1.frY.tr fy2
  have R9 : mR c1 0 9 = some 49 := by have := hCF1.1; simp only [this]
  have K0 : mK c1 0 = 10 := by have := hCF1.1; simp only [this]
  have R2 : mR c1 0 2 = some 17 := by have := hCF1.1; simp only [this]
  have K17 : mK c1 17 = 1 := by have := hCF1.1; simp only [this]
  have KQ : mK c1 q = 3 := hCF1.2.1.base.1
  generalize wI c1 49 g = c2 at *
  have fm2 : frR m (sI m1 50 60 0) := hFD.1.tr (frQ.sI (Or.inr (Or.inr (Or.inr ⟨rfl, rfl⟩)))).frR
  have m26 : mI (sI m1 50 60 0) 50 60 = nI 0 := mI_sI_e
  have hB2 : BST d (sI m1 50 60 0) f S N (zlast d f (mI c 19 l)) day := hFD.bst.cg (frQ.sI (Or.inr (Or.inr (Or.inr ⟨rfl, rfl⟩))))
  have hM1 : shM m1 := hFD.1.shM hMF.1
  have hM0 := hMF.1
  have hRs : ∀ r, f_X11_results_b15 F 50 F (sI m1 50 60 0) (nI f) (nI l) (nI day) (nI 0) = r → f_X11_results F m 50 (nI f) (nI l) (nI day) = r := by
    intro r e
    have e' : f_X11_results_b15 F 50 F (sI m1 50 60 0) (nI f) (nI l) (nI day) (0 : Int32) = r := e
    simp only [f_X11_results, hM0, em, hM1, e', nx_eq, ck_true, br_true, br_false, bd_eq, de_eq, mN_sI_, mK_sI_, mL_sI_, mI_sI_ap, mJ_sI_, mR_sI_, mN_sJ_, mK_sJ_, mL_sJ_, mI_sJ_, mJ_sJ_ap, mR_sJ_, mN_sR_, mK_sR_, mL_sR_, mI_sR_, mJ_sR_, mR_sR_ap, Nat.reduceEqDiff, Nat.reduceAdd, ↓reduceIte, and_true, true_and, and_false, false_and, or_true, true_or, or_false, false_or, not_true_eq_false, not_false_eq_true, i10, i01, ii01, ii02, ii03, ii04, ii05, ii12, ii13, ii14, ii15, ii20, ii21, ii23, ii24, ii25, ii30, ii31, ii32, ii34, ii35, ii40, ii41, ii42, ii43, ii45, ii50, ii51, ii52, ii53, ii54, bi_z, Option.some.injEq, reduceCtorEq, Nat.reduceLeDiff]
  have hCs : ∀ r, f_X10_rankInto_b25 F 0 F c2 (some z) (some q) (nI l) (nI day) (nI 0) = r → f_X10_rankInto F c 0 (some z) (some q) (nI l) (nI day) = r := by
    intro r e
    have e' : f_X10_rankInto_b25 F 0 F c2 (some z) (some q) (nI l) (nI day) (0 : Int32) = r := e
    simp only [f_X10_rankInto, kz, hE, K0, R2, K17, eU, KQ, R9, eg, e', nx_eq, ck_true, br_true, br_false, bd_eq, de_eq, mN_sI_, mK_sI_, mL_sI_, mI_sI_ap, mJ_sI_, mR_sI_, mN_sJ_, mK_sJ_, mL_sJ_, mI_sJ_, mJ_sJ_ap, mR_sJ_, mN_sR_, mK_sR_, mL_sR_, mI_sR_, mJ_sR_, mR_sR_ap, Nat.reduceEqDiff, Nat.reduceAdd, ↓reduceIte, and_true, true_and, and_false, false_and, or_true, true_or, or_false, false_or, not_true_eq_false, not_false_eq_true, i10, i01, ii01, ii02, ii03, ii04, ii05, ii12, ii13, ii14, ii15, ii20, ii21, ii23, ii24, ii25, ii30, ii31, ii32, ii34, ii35, ii40, ii41, ii42, ii43, ii45, ii50, ii51, ii52, ii53, ii54, bi_z, Option.some.injEq, reduceCtorEq, Nat.reduceLeDiff]
  generalize sI m1 50 60 0 = m2 at *
  have fk2 := fy2'.frK hz
  have hW : WK d c2 m2 f q S L N nw nl (zlast d f (mI c 19 l)) day := ⟨hCF.cg fk2, hMF.cg fm2, hcl.fr fk2 fm2, hbk.fr fk2 fm2, hRD.fr q97 fk2 fm2, k49, hB2⟩
  obtain ⟨c3, m3, n3, ln3, w1, w2, w3, w4, w5, w6, w7, w8, w9, w10⟩ := lp_rank F hF hD hll2 hz hd hll N 0 F F c2 m2 0 (fun _ => 0) (by omega) (by have := hD.2.2.2.1; omega) (by have := hD.2.2.2.1; omega) hW c26 m26 (Nat.le_refl _) (fun i hi => absurd hi (by omega)) (fun i hi => absurd hi (by omega)) (fun i j h1 h2 => absurd h2 (by omega)) (fun i j h1 h2 => absurd h2 (by omega))
  have hW3 := hW.cg hz w3 w4
  obtain ⟨d1, d2, d3, d4, d5, d6, d7⟩ := id hW3.2.2.2.1
  obtain ⟨⟨v1, v2⟩, -⟩ := d7 l hll
  obtain ⟨c4, m4, n4, ln4, x1, x2, x3, x4, x5, x6, x7, x8, x9, x10⟩ := e_cut F (by omega) hD hz hW3.1 hW3.2.1 v2 w7 w5 w6 w8 w9 w10
  have hW4 := hW3.cg hz x3 x4
  obtain ⟨c5, m5, y1, y2, y3, y4, y5, y6, y7, y8⟩ := lp_pl F (by omega) hD hll2 hz x7 n4 0 F F c4 m4 (by omega) (by omega) (by omega) (hW4.1.1.rk hz) hW4.2.1 hW4.2.2.2.2.2.2 x5 x6 x8 (fun i hi => absurd hi (by omega))
  refine ⟨c5, m5, n4, ln4, hCs _ ?_, hRs _ ?_, ((fy2'.tr w3.frY).tr x3.frY).tr y3.frY, ((fm2.tr w4.frR).tr x4.frR).tr y4.frR, hll2, x7, y5, y6, y7, y8, x9, x10, hW4.2.2.2.2.2.2.cg y4⟩
  · rw [w1]
    have hC3 := hW3.1.1
    have eM := e_mostOf F hC3 d5 d3 hll
    rw [← v1] at x1
    have kz3 : mK c3 z = 6 := (hC3.rk hz).1
    have kz4 : mK c4 z = 6 := (hW4.1.1.rk hz).1
    have y1' : f_X5_setPlaces F c4 z = some ((), c5) := y1
    simp only [f_X10_rankInto_b141, hC3, eM, kz3, x1, kz4, y1', nx_eq, ck_true, br_true, br_false, bd_eq, de_eq, mN_sI_, mK_sI_, mL_sI_, mI_sI_ap, mJ_sI_, mR_sI_, mN_sJ_, mK_sJ_, mL_sJ_, mI_sJ_, mJ_sJ_ap, mR_sJ_, mN_sR_, mK_sR_, mL_sR_, mI_sR_, mJ_sR_, mR_sR_ap, Nat.reduceEqDiff, Nat.reduceAdd, ↓reduceIte, and_true, true_and, and_false, false_and, or_true, true_or, or_false, false_or, not_true_eq_false, not_false_eq_true, i10, i01, ii01, ii02, ii03, ii04, ii05, ii12, ii13, ii14, ii15, ii20, ii21, ii23, ii24, ii25, ii30, ii31, ii32, ii34, ii35, ii40, ii41, ii42, ii43, ii45, ii50, ii51, ii52, ii53, ii54, bi_z, Option.some.injEq, reduceCtorEq, Nat.reduceLeDiff]
  · rw [w2, x2]
    exact y2
