/-! settle and work -/
def frP (y : Nat) (c c' : Mem) : Prop := mK c' = mK c ∧ mL c' = mL c ∧ mR c' = mR c ∧ mN c' = mN c ∧ (∀ x, x ≠ 49 → x ≠ y → x ≠ y + 1 → x < 40 ∨ 47 ≤ x → mI c' x = mI c x) ∧ ∀ x, x < 40 ∨ 47 ≤ x → mJ c' x = mJ c x
theorem e_settle (F : Nat) (hF : 1000 ≤ F) {d c m : Mem} {f q S L N nw nl l day y : Nat} {st : Nat → Nat} (hD : DF d f S L N) (hCF : CF d c f q S L N) (hMF : MF d m f S N) (hcl : Rclub c m L N) (hbk : Rbook c m nw nl) (hRD : RfD c m f q) (hll : l < nl) (hd : day ≤ 400) (hy : y = 47 ∨ y = q + (15 + 4 * l)) (hy1 : mK c y = 4) (hy2 : mR c y 0 = some (y + 1)) (hy3 : mK c (y + 1) = 22) (hy4 : mL c (y + 1) = 24) (hst : ∀ b, b < 24 → st b ≤ 10000 ∧ mI c (q + (14 + 4 * l)) b = nI (st b) ∧ mI m 73 (144 * f + 24 * l + b) = nI (st b)) :
    ∃ c' m' pz T pd bk, f_X10_settle F c 0 (some y) (some q) (nI l) (nI day) = some ((), c') ∧ f_X11_work F m 50 (nI f) (nI l) (nI day) = some ((), m') ∧ frP y c c' ∧ frR m m' ∧ PO y c' pz pd ∧ mI c' y 1 = nI T ∧ mI c' y 3 = nI bk ∧ PM m' pz T pd bk ∧ mJ m' 95 2 = lN T - lN pd ∧ (∀ b, pz b ≤ 5760000) ∧ pd ≤ 138240000 ∧ T ≤ 240000 ∧ bk ≤ 240000 := by
  have hC := hCF.1
  have hsF := hCF.2.1
  have q97 := hCF.2.2.1
  have f6 := hD.1
  have hN := hD.2.2.2.1
  have b1 := hbk.1
  have b3 := hbk.2.2.1
  have l6 : l < 6 := by omega
  have y97 : y = 47 ∨ 97 ≤ y := by omega
  obtain ⟨p1, p2, p3, p4, p5, -⟩ := hsF.purse l6
  obtain ⟨s1, s2, s3, s4⟩ := hsF.base
  obtain ⟨yy, py, hP⟩ := hbk.pays hll
  have hst1 : ∀ b, b < 24 → st b ≤ 10000 := fun b hb => (hst b hb).1
  -- the ranking
  obtain ⟨c1, m1, n, ln, e1, e2, fy, fr, hK⟩ := e_rank F hF (Or.inr rfl) hD hCF hMF hcl hbk hRD hll hd
  obtain ⟨r0, r1, r2, r3, r4, r5, r6, r7, r8⟩ := hK
  generalize hla : zlast d f (mI c 19 l) = last at *
  have fk := fy.frK (Or.inr rfl)
  have hC1 := fk.shC hC
  have c1w : ∀ x, 97 ≤ x → mI c1 x = mI c x := fun x hx => fk.2.2.2.2.1 x (Or.inr hx)
  have hsF1 : shF c1 q := (hCF.cg fk).2.1
  obtain ⟨P, hPl⟩ : ∃ P, plN d f S last day ln = P := ⟨_, rfl⟩
  rw [hPl] at r5
  have hPb : ∀ i, P i ≤ i + 1 := fun i => by rw [← hPl]; exact (plN_le _ _ _ _ _ _ _).2
  have hln : ∀ i, i < n → ln i < 24 := fun i hi => by have := (r4 i hi).1; omega
  -- those who staked
  obtain ⟨c2, k1, k2, k3, k4⟩ := lp_keep F (n := n) (w := q + (14 + 4 * l)) (st := st) (A := ln) (P := P) r1 (by omega) hst1 hln n 0 F c1 (by omega) (by omega) (hC1.rk (Or.inr rfl)) (by rw [fk.1]; exact p4) (by rw [fk.2.1]; exact p5) (fun b hb => by rw [c1w _ (by omega)]; exact (hst b hb).2.1) r2 (fun i hi => absurd hi (by show ¬ i < 0; omega)) (fun i _ hi => ⟨(r4 i hi).2.2.2.1, (r5 i hi).1⟩)
  have k1' : f_X5_keepStaked F c1 40 (some (q + (14 + 4 * l))) = some ((), c2) := k1
  obtain ⟨t1, t2, t3⟩ := kp_p st ln n
  generalize hn' : (kp st ln n).1 = n' at *
  generalize hix : (kp st ln n).2 = ix at *
  have c2w : ∀ x, 47 ≤ x → x ≠ 49 → mI c2 x = mI c x := fun x hx hx2 => by rw [k2.2.2.2.2.1 x (by omega)]; exact fy.2.2.2.2.1 x hx2 (by omega)
  have c2K : mK c2 = mK c := k2.1.trans fy.1
  have c2L : mL c2 = mL c := k2.2.1.trans fy.2.1
  have c2R : mR c2 = mR c := k2.2.2.1.trans fy.2.2.1
  have hsF2 : shF c2 q := hsF.tr (fun t _ _ => by rw [c2K]) (fun t _ _ => by rw [c2L]) (fun t _ _ => by rw [c2R])
  -- gather
  obtain ⟨c3, g1, g2, g3, g4, g5⟩ := lp_gather F (q := q) (w := q + (14 + 4 * l)) (y := y) (st := st) (G := fun b => ¬ nI day < mI c (q + 11) b) (p := nI day) hst1 (by omega) (by omega) 24 0 F (sI (sI c2 y 1 0) y 3 0) (by omega) (by omega) hsF2 (by show mK c2 _ = _; rw [c2K]; exact p4) (by show mL c2 _ = _; rw [c2L]; exact p5) (by show mK c2 _ = _; rw [c2K]; exact hy1) (fun b hb => by rw [mI_sI_o (by omega), mI_sI_o (by omega), c2w _ (by omega) (by omega)]; exact (hst b hb).2.1) (fun b hb => by rw [mI_sI_o (by omega), mI_sI_o (by omega), c2w _ (by omega) (by omega)]; exact ⟨fun a z => z a, fun a => Classical.byContradiction a⟩) (by rw [mI_sI_j (by decide), mI_sI_e]; rfl) (by rw [mI_sI_e]; rfl)
  have g1' : f_X3_gather_b13 F y F (sI (sI c2 y 1 0) y 3 0) (some (q + (14 + 4 * l))) (some q) (nI day) (0 : Int32) = some ((), c3) := g1
  have hTl := gs_le (fun b => ¬ ¬ nI day < mI c (q + 11) b) hst1 24 (Nat.le_refl _)
  have hbl := gs_le (fun b => ¬ nI day < mI c (q + 11) b) hst1 24 (Nat.le_refl _)
  -- the reference: sums, prizes, those who staked
  have hM1 : shM m1 := fr.shM hMF.1
  obtain ⟨gz, z1, z2⟩ := lp_b10 F hM1 (nI f) (nI l) (nI day) 4 0 (mJ m1 95) F (by omega) (by omega) (fun i hi => absurd hi (by omega))
  rw [wJ_id] at z1
  have z1' : f_X11_work_b10 F 50 F m1 (nI f) (nI l) (nI day) (0 : Int32) = f_X11_work_b33 F 50 F (wJ m1 95 gz) (nI f) (nI l) (nI day) (0 : Int32) := z1
  have fv1 : frV m1 (wJ m1 95 gz) := ⟨rfl, rfl, rfl, rfl, fun x _ _ _ h4 => mJ_wJ_o h4⟩
  have hRD1 : RfD c (wJ m1 95 gz) f q := hRD.cg rfl rfl (fun x b _ _ _ => by show mI m1 x _ = _; rw [fr.2.2.2.1 x (by omega) (by omega)])
  have m73 : mI m1 73 = mI m 73 := fr.2.2.2.1 73 (by decide) (by decide)
  -- b33 zeroes the prizes as it goes
  obtain ⟨m2, x1, x2, x3⟩ := lp_b33 F (c := c) (q := q) (l := l) (st := st) (G := fun b => ¬ nI day < mI c (q + 11) b) f6 l6 hd hst1 (fun b hb => ⟨fun a z => z a, fun a => Classical.byContradiction a⟩) 24 0 F (wJ m1 95 gz) (by omega) (by omega) hM1 hRD1 (fun b hb => by show mI m1 73 _ = _; rw [m73]; exact (hst b hb).2.2) (fun b hb => absurd hb (by omega)) (by rw [mJ_wJ_e]; exact z2 0 (by decide)) (by rw [mJ_wJ_e]; exact z2 1 (by decide)) (by rw [mJ_wJ_e]; exact z2 3 (by decide))
  have x1' : f_X11_work_b33 F 50 F (wJ m1 95 gz) (nI f) (nI l) (nI day) (0 : Int32) = _ := x1
  have fv2 := fv1.tr x2
  have i2 : mI m2 = mI m1 := fv2.2.2.2.1
  have hM2 : shM m2 := fv2.frR.shM hM1
  have b31 : mI m1 50 31 = nI nw := by rw [fr.2.2.2.2.1 31 (by decide)]; exact hbk.2.2.2.1
  obtain ⟨ga, u1, u2⟩ := lp_b118 F hM2 (st := st) (A := ln) f6 l6 b1 (by rw [i2]; exact b31) r1 (by rw [i2]; exact r3) (fun b hb => ⟨hst1 b hb, by rw [i2, m73]; exact (hst b hb).2.2⟩) (fun i hi => ⟨hln i hi, by rw [i2]; exact (r4 i hi).2.2.2.2.2.2.2⟩) n 0 (mI m2 96) F (by omega) (by omega) (fun i hi => absurd hi (by show ¬ i < 0; omega))
  rw [wI_id, hn'] at u1
  rw [hn', hix] at u2
  have u1' : f_X11_work_b118 F 50 F m2 (nI f) (nI l) (0 : Int32) (0 : Int32) = _ := u1
  have fm3 : frR m (wI m2 96 ga) := (fr.tr fv2.frR).tr ⟨rfl, rfl, rfl, fun x h1 h2 => mI_wI_o (by omega), fun j _ => by rw [mI_wI_o (by decide)], fun _ _ _ => rfl⟩
  have hB3 : BST d (wI m2 96 ga) f S N last day := fun b hb => by
    have := (r8.cv fv2) b hb
    rw [mI_wI_o (by decide)]
    exact this
  have hPM3 : PM (wI m2 96 ga) (fun _ => 0) (gs (fun b => ¬ ¬ nI day < mI c (q + 11) b) st 24) 0 (gs (fun b => ¬ nI day < mI c (q + 11) b) st 24) := x3
  have e96 : ∀ i, i < n' → mI (wI m2 96 ga) 96 i = nI (ln (ix i)) := fun i hi => by rw [mI_wI_e]; exact u2 i hi
  have e79 : mI (wI m2 96 ga) 79 = mI m2 79 := mI_wI_o (by decide)
  rw [← e79] at u1'
  have e80 : mI (wI m2 96 ga) 80 = mI m 80 := fm3.2.2.2.1 80 (by decide) (by decide)
  have e79' : mI (wI m2 96 ga) 79 = mI m 79 := fm3.2.2.2.1 79 (by decide) (by decide)
  generalize hm3 : wI m2 96 ga = m3 at *
  -- the class's payout is emptied
  have c3K : mK c3 = mK c := g2.1.trans c2K
  have c3L : mL c3 = mL c := g2.2.1.trans c2L
  have c3R : mR c3 = mR c := g2.2.2.1.trans c2R
  have eFi := e_fill F (σ := sI c3 y 2 0) (x := y + 1) 0 (by show mK c3 _ = _; rw [c3K]; exact hy3) (by show mL c3 _ = _; rw [c3L]; exact hy4) (show 24 < F by omega) (by decide)
  have c4o : ∀ x, x ≠ y → x ≠ y + 1 → mI (wI (sI c3 y 2 0) (y + 1) (fun i => if i < 24 then 0 else mI (sI c3 y 2 0) (y + 1) i)) x = mI c2 x := fun x h1 h2 => by rw [mI_wI_o h2, mI_sI_o h1, g2.2.2.2.2.2 x h1, mI_sI_o h1, mI_sI_o h1]
  have c41 : ∀ x, x ≠ 2 → mI (wI (sI c3 y 2 0) (y + 1) (fun i => if i < 24 then 0 else mI (sI c3 y 2 0) (y + 1) i)) y x = mI c3 y x := fun x h1 => by rw [mI_wI_o (by omega), mI_sI_j h1]
  have c4P : PO y (wI (sI c3 y 2 0) (y + 1) (fun i => if i < 24 then 0 else mI (sI c3 y 2 0) (y + 1) i)) (fun _ => 0) 0 := ⟨by show mK c3 _ = _; rw [c3K]; exact hy1, by show mR c3 _ _ = _; rw [c3R]; exact hy2, by show mK c3 _ = _; rw [c3K]; exact hy3, by show mL c3 _ = _; rw [c3L]; exact hy4, fun b hb => by rw [mI_wI_e, if_pos hb]; rfl, by rw [mI_wI_o (by omega), mI_sI_e]; rfl⟩
  have c4K : mK (wI (sI c3 y 2 0) (y + 1) (fun i => if i < 24 then 0 else mI (sI c3 y 2 0) (y + 1) i)) = mK c := c3K
  have c4L : mL (wI (sI c3 y 2 0) (y + 1) (fun i => if i < 24 then 0 else mI (sI c3 y 2 0) (y + 1) i)) = mL c := c3L
  have c4R : mR (wI (sI c3 y 2 0) (y + 1) (fun i => if i < 24 then 0 else mI (sI c3 y 2 0) (y + 1) i)) = mR c := c3R
  have c4N : mN (wI (sI c3 y 2 0) (y + 1) (fun i => if i < 24 then 0 else mI (sI c3 y 2 0) (y + 1) i)) = mN c := g2.2.2.2.1.trans (k2.2.2.2.1.trans fy.2.2.2.1)
  have c4J : ∀ x, x < 40 ∨ 47 ≤ x → mJ (wI (sI c3 y 2 0) (y + 1) (fun i => if i < 24 then 0 else mI (sI c3 y 2 0) (y + 1) i)) x = mJ c x := fun x hx => by
    show mJ c3 x = _
    rw [g2.2.2.2.2.1]
    show mJ c2 x = _
    rw [k2.2.2.2.2.2 x (by omega)]
    exact fy.2.2.2.2.2 x (by omega)
  generalize hc4 : wI (sI c3 y 2 0) (y + 1) (fun i => if i < 24 then 0 else mI (sI c3 y 2 0) (y + 1) i) = c4 at *
  have hC4 : shC c4 := hC.cg c4K c4L c4R
  have lo : ∀ x, x < 40 → mI c4 x = mI c x := fun x hx => by
    rw [c4o x (by omega) (by omega), k2.2.2.2.2.1 x (by omega)]
    exact fy.2.2.2.2.1 x (by omega) (by omega)
  obtain ⟨c5, m5, pz, pd, v1, v2, v3, v4, v5, v6, v7, v8, v9, v10⟩ := lp_share F hF (n := n') (sb := fun i => ln (ix i)) (pp := fun i => P (ix i)) hD r0 y97 (by omega) (fun i hi => by
      obtain ⟨a1, a2, a3, -⟩ := r4 (ix i) (t2 i hi)
      exact ⟨a1, a2, a3⟩) (fun i i' h1 h2 => by
      have a := t3 i i' h1 h2
      have b := t2 i' h2
      have := pl_iff r7 (fun j hj => ent_Y hD r0 (r4 j hj)) (ix i) (ix i' - ix i) (by omega)
      rw [show ix i + (ix i' - ix i) = ix i' by omega, hPl] at this
      exact this.symm) (fun i hi => by
      have := hPb (ix i)
      have := t2 i hi
      show P (ix i) ≤ 24
      omega) b3 hll b1 (show gs (fun b => ¬ ¬ nI day < mI c (q + 11) b) st 24 ≤ 240000 by omega) n' 0 F F c4 m3 (fun _ => 0) 0 (by omega) (by omega) (by omega) hC4 (by rw [lo 17 (by decide)]; exact hbk.2.2.2.2.1) (hP.cg (lo 22 (by decide)) (lo 23 (by decide)) e79' e80) (by rw [c4o 40 (by omega) (by omega)]; exact k3) (fun i hi => by rw [c4o 41 (by omega) (by omega), c4o 43 (by omega) (by omega)]; exact k4 i hi) c4P (by rw [c41 1 (by decide)]; exact g3) (hMF.cg fm3) hB3 (by rw [fm3.2.2.2.2.1 31 (by decide)]; exact hbk.2.2.2.1) e96 hPM3 (fun _ => Nat.zero_le _) (Nat.zero_le _)
  have v1' : f_X3_share_b22 F y F c4 (some 40) (some 17) (nI l) (0 : Int32) (0 : Int32) (0 : Int32) = some ((), c5) := v1
  refine ⟨c5, m5, pz, _, pd, _, ?_, ?_, ⟨v3.1.trans c4K, v3.2.1.trans c4L, v3.2.2.1.trans c4R, v3.2.2.2.1.trans c4N, fun x x1 x2 x3 x4 => ?_, fun x x1 => ?_⟩, fm3.tr v6.frR, v5, ?_, ?_, v7, v8, v9, by omega, by omega, by omega⟩
  · have g7 : ¬ nI l < 0 := nI_pos (by omega)
    have g8 : ¬ (6 : Int32) ≤ nI l := nI_ge (b := 6) l6 (by decide)
    have ePu : f_X2_purseOf F c q (nI l) = some (some (q + (13 + 4 * l)), c) := by
      simp only [f_X2_purseOf, f_X2_purseOf_b19, g7, g8, s1, s2, s3, s4, p1, vp_nI l6 (show 6 < 2147483648 by decide), nI_cl (show l < 2147483648 by omega), nx_eq, ck_true, br_true, br_false, bd_eq, de_eq, mN_sI_, mK_sI_, mL_sI_, mI_sI_ap, mJ_sI_, mR_sI_, mN_sJ_, mK_sJ_, mL_sJ_, mI_sJ_, mJ_sJ_ap, mR_sJ_, mN_sR_, mK_sR_, mL_sR_, mI_sR_, mJ_sR_, mR_sR_ap, Nat.reduceEqDiff, Nat.reduceAdd, ↓reduceIte, and_true, true_and, and_false, false_and, or_true, true_or, or_false, false_or, not_true_eq_false, not_false_eq_true, i10, i01, ii01, ii02, ii03, ii04, ii05, ii12, ii13, ii14, ii15, ii20, ii21, ii23, ii24, ii25, ii30, ii31, ii32, ii34, ii35, ii40, ii41, ii42, ii43, ii45, ii50, ii51, ii52, ii53, ii54, bi_z, Option.some.injEq, reduceCtorEq, Nat.reduceLeDiff]
    have a1 : mK c1 (q + (13 + 4 * l)) = 5 := by rw [fk.1]; exact p2
    have a2 : mR c1 (q + (13 + 4 * l)) 0 = some (q + (14 + 4 * l)) := by rw [fk.2.2.1]; exact p3
    have a3 : mK c2 (q + (13 + 4 * l)) = 5 := by rw [c2K]; exact p2
    have a4 : mR c2 (q + (13 + 4 * l)) 0 = some (q + (14 + 4 * l)) := by rw [c2R]; exact p3
    have a5 : mK c2 y = 4 := by rw [c2K]; exact hy1
    have a6 : mK c3 y = 4 := by rw [c3K]; exact hy1
    have a7 : mR c3 y 0 = some (y + 1) := by rw [c3R]; exact hy2
    have a8 : mK c3 0 = 10 := by rw [c3K]; simp only [hC]
    have a9 : mR c3 0 7 = some 40 := by rw [c3R]; simp only [hC]
    have a10 : mR c3 0 2 = some 17 := by rw [c3R]; simp only [hC]
    have eGa : f_X3_gather F c2 y (some (q + (14 + 4 * l))) (some q) (nI day) = some ((), c3) := by
      simp only [f_X3_gather, a5, g1', nx_eq, ck_true, br_true, br_false, bd_eq, de_eq, mN_sI_, mK_sI_, mL_sI_, mI_sI_ap, mJ_sI_, mR_sI_, mN_sJ_, mK_sJ_, mL_sJ_, mI_sJ_, mJ_sJ_ap, mR_sJ_, mN_sR_, mK_sR_, mL_sR_, mI_sR_, mJ_sR_, mR_sR_ap, Nat.reduceEqDiff, Nat.reduceAdd, ↓reduceIte, and_true, true_and, and_false, false_and, or_true, true_or, or_false, false_or, not_true_eq_false, not_false_eq_true, i10, i01, ii01, ii02, ii03, ii04, ii05, ii12, ii13, ii14, ii15, ii20, ii21, ii23, ii24, ii25, ii30, ii31, ii32, ii34, ii35, ii40, ii41, ii42, ii43, ii45, ii50, ii51, ii52, ii53, ii54, bi_z, Option.some.injEq, reduceCtorEq, Nat.reduceLeDiff]
    have eSh : f_X3_share F c3 y (some 40) (some 17) (nI l) = some ((), c5) := by
      simp only [f_X3_share, a6, a7, eFi, v1', nx_eq, ck_true, br_true, br_false, bd_eq, de_eq, mN_sI_, mK_sI_, mL_sI_, mI_sI_ap, mJ_sI_, mR_sI_, mN_sJ_, mK_sJ_, mL_sJ_, mI_sJ_, mJ_sJ_ap, mR_sJ_, mN_sR_, mK_sR_, mL_sR_, mI_sR_, mJ_sR_, mR_sR_ap, Nat.reduceEqDiff, Nat.reduceAdd, ↓reduceIte, and_true, true_and, and_false, false_and, or_true, true_or, or_false, false_or, not_true_eq_false, not_false_eq_true, i10, i01, ii01, ii02, ii03, ii04, ii05, ii12, ii13, ii14, ii15, ii20, ii21, ii23, ii24, ii25, ii30, ii31, ii32, ii34, ii35, ii40, ii41, ii42, ii43, ii45, ii50, ii51, ii52, ii53, ii54, bi_z, Option.some.injEq, reduceCtorEq, Nat.reduceLeDiff]
    simp only [f_X10_settle, s1, ePu, hC, e1, hC1, a1, a2, k1', a3, a4, a5, eGa, a8, a6, a9, a10, eSh, nx_eq, ck_true, br_true, br_false, bd_eq, de_eq, mN_sI_, mK_sI_, mL_sI_, mI_sI_ap, mJ_sI_, mR_sI_, mN_sJ_, mK_sJ_, mL_sJ_, mI_sJ_, mJ_sJ_ap, mR_sJ_, mN_sR_, mK_sR_, mL_sR_, mI_sR_, mJ_sR_, mR_sR_ap, Nat.reduceEqDiff, Nat.reduceAdd, ↓reduceIte, and_true, true_and, and_false, false_and, or_true, true_or, or_false, false_or, not_true_eq_false, not_false_eq_true, i10, i01, ii01, ii02, ii03, ii04, ii05, ii12, ii13, ii14, ii15, ii20, ii21, ii23, ii24, ii25, ii30, ii31, ii32, ii34, ii35, ii40, ii41, ii42, ii43, ii45, ii50, ii51, ii52, ii53, ii54, bi_z, Option.some.injEq, reduceCtorEq, Nat.reduceLeDiff]
  · have hM0 := hMF.1
    have v2' : f_X11_work_b195 F 50 F m3 (nI f) (nI l) (nI n') (mI m3 79 (6 * nw + l)) (0 : Int32) = some ((), m5) := v2
    simp only [f_X11_work, hM0, e2, z1', x1', u1', v2', nx_eq, ck_true, br_true, br_false, bd_eq, de_eq, mN_sI_, mK_sI_, mL_sI_, mI_sI_ap, mJ_sI_, mR_sI_, mN_sJ_, mK_sJ_, mL_sJ_, mI_sJ_, mJ_sJ_ap, mR_sJ_, mN_sR_, mK_sR_, mL_sR_, mI_sR_, mJ_sR_, mR_sR_ap, Nat.reduceEqDiff, Nat.reduceAdd, ↓reduceIte, and_true, true_and, and_false, false_and, or_true, true_or, or_false, false_or, not_true_eq_false, not_false_eq_true, i10, i01, ii01, ii02, ii03, ii04, ii05, ii12, ii13, ii14, ii15, ii20, ii21, ii23, ii24, ii25, ii30, ii31, ii32, ii34, ii35, ii40, ii41, ii42, ii43, ii45, ii50, ii51, ii52, ii53, ii54, bi_z, Option.some.injEq, reduceCtorEq, Nat.reduceLeDiff]
  · rw [v3.2.2.2.2.2 x x2 x3, c4o x x2 x3, k2.2.2.2.2.1 x (by omega)]
    exact fy.2.2.2.2.1 x x1 (by omega)
  · rw [v3.2.2.2.2.1]
    exact c4J x x1
  · rw [v4 1 (by decide), c41 1 (by decide)]
    exact g3
  · rw [v4 3 (by decide), c41 3 (by decide)]
    exact g4
