/-! two birds compared -/
def zV (d : Mem) (f b k : Nat) : Nat := zW d f b * zL d f k * zL d f k
def zY (d : Mem) (f k : Nat) : Nat := (zU d f k - zr d f * zL d f k) * (zU d f k - zr d f * zL d f k)
theorem fl_g (d : Mem) (f k : Nat) : zU d f k - zr d f * zL d f k = zg d f k * zs d f k := by
  unfold zs
  rw [Nat.mul_sub, zU_g, Nat.mul_left_comm, zL_g]
theorem fl_b {d : Mem} {f S L N k last day : Nat} (hD : DF d f S L N) (hk : k < S) (hc : zC d f last day k) (hl : last ≤ 40000) : 0 < zU d f k - zr d f * zL d f k ∧ zU d f k - zr d f * zL d f k ≤ 1600000000 ∧ 0 < zs d f k ∧ zs d f k ≤ 1600000000 := by
  obtain ⟨-, c2, c3, c4⟩ := hc
  have l := zL_le hD hk
  have m := Nat.mul_le_mul hl l
  have e := fl_g d f k
  have p : 0 < zU d f k - zr d f * zL d f k := by omega
  have g := zg_pos c2
  have s0 : 0 < zs d f k := by
    refine Nat.pos_of_ne_zero fun z => ?_
    rw [z, Nat.mul_zero] at e
    omega
  have q := Nat.le_mul_of_pos_left (zs d f k) g
  exact ⟨p, by omega, s0, by omega⟩
theorem zY_b {d : Mem} {f S L N k last day : Nat} (hD : DF d f S L N) (hk : k < S) (hc : zC d f last day k) (hl : last ≤ 40000) : 0 < zY d f k ∧ zY d f k < 9223372036854775808 := by
  obtain ⟨p1, p2, -⟩ := fl_b hD hk hc hl
  exact ⟨Nat.mul_pos p1 p1, Nat.lt_of_le_of_lt (Nat.mul_le_mul p2 p2) (by decide)⟩
theorem zV_b {d : Mem} {f S L N b k : Nat} (hD : DF d f S L N) (hk : k < S) (hb : b < N) : zV d f b k < 9223372036854775808 := by
  have l := zL_le hD hk
  exact Nat.lt_of_le_of_lt (Nat.mul_le_mul (Nat.mul_le_mul (zW_le hD hb) l) l) (by decide)
theorem e_vU (F : Nat) {d c : Mem} {f q S L N k b : Nat} (hD : DF d f S L N) (h : CF d c f q S L N) (hk : k < S) : f_X2_velocityUpper F c q (nI k) (lN (zW d f b)) = some (lN (zV d f b k), c) := by
  have k3 := h.2.1.base.1
  simp only [f_X2_velocityUpper, k3, e_loOf F hD h hk, lN_mul, zV, nx_eq, ck_true, br_true, br_false, bd_eq, de_eq, mN_sI_, mK_sI_, mL_sI_, mI_sI_ap, mJ_sI_, mR_sI_, mN_sJ_, mK_sJ_, mL_sJ_, mI_sJ_, mJ_sJ_ap, mR_sJ_, mN_sR_, mK_sR_, mL_sR_, mI_sR_, mJ_sR_, mR_sR_ap, Nat.reduceEqDiff, Nat.reduceAdd, ↓reduceIte, and_true, true_and, and_false, false_and, or_true, true_or, or_false, false_or, not_true_eq_false, not_false_eq_true, i10, i01, ii01, ii02, ii03, ii04, ii05, ii12, ii13, ii14, ii15, ii20, ii21, ii23, ii24, ii25, ii30, ii31, ii32, ii34, ii35, ii40, ii41, ii42, ii43, ii45, ii50, ii51, ii52, ii53, ii54, bi_z, Option.some.injEq, reduceCtorEq, Nat.reduceLeDiff]
theorem e_vL (F : Nat) {d c : Mem} {f q S L N k last day : Nat} (hD : DF d f S L N) (h : CF d c f q S L N) (hk : k < S) (hc : zC d f last day k) : f_X2_velocityLower F c q (nI k) = some (lN (zY d f k), c) := by
  have k3 := h.2.1.base.1
  have h6 : mI c q 2 = nI (zr d f) := h.2.2.2.2.2.1
  have hz := hD.2.2.2.2.2.2.2.1
  have hr := hD.2.2.2.2.2.2.1
  have e1 : (nI (zr d f)).toInt64 = lN (zr d f) := nI_l (by omega)
  have e2 : lN (zU d f k) - lN (zr d f * zL d f k) = lN (zU d f k - zr d f * zL d f k) := lN_sub (Nat.le_of_lt hc.2.2.1)
  simp only [f_X2_velocityLower, k3, e_upOf1 F hD h hk hc.2.1, e_loOf F hD h hk, h6, e1, lN_mul, e2, zY, nx_eq, ck_true, br_true, br_false, bd_eq, de_eq, mN_sI_, mK_sI_, mL_sI_, mI_sI_ap, mJ_sI_, mR_sI_, mN_sJ_, mK_sJ_, mL_sJ_, mI_sJ_, mJ_sJ_ap, mR_sJ_, mN_sR_, mK_sR_, mL_sR_, mI_sR_, mJ_sR_, mR_sR_ap, Nat.reduceEqDiff, Nat.reduceAdd, ↓reduceIte, and_true, true_and, and_false, false_and, or_true, true_or, or_false, false_or, not_true_eq_false, not_false_eq_true, i10, i01, ii01, ii02, ii03, ii04, ii05, ii12, ii13, ii14, ii15, ii20, ii21, ii23, ii24, ii25, ii30, ii31, ii32, ii34, ii35, ii40, ii41, ii42, ii43, ii45, ii50, ii51, ii52, ii53, ii54, bi_z, Option.some.injEq, reduceCtorEq, Nat.reduceLeDiff]
theorem cmpN_mul {k : Nat} (hk : 0 < k) (x y : Nat) : cmpN (k * x) (k * y) = cmpN x y := by
  rcases Nat.lt_trichotomy x y with h | h | h
  · rw [cmpN_lt h, cmpN_lt (Nat.mul_lt_mul_of_pos_left h hk)]
  · rw [cmpN_eq h, cmpN_eq (by rw [h])]
  · rw [cmpN_gt h, cmpN_gt (Nat.mul_lt_mul_of_pos_left h hk)]
theorem cmp_ref {d : Mem} {f a b k j : Nat} (hk : 0 < zL d f k) (hj : 0 < zL d f j) : cmpN (zs d f j * zq d f k * (zs d f j * zq d f k) * zW d f a) (zs d f k * zq d f j * (zs d f k * zq d f j) * zW d f b) = cmpN (zV d f a k * zY d f j) (zV d f b j * zY d f k) := by
  have g1 := zg_pos hk
  have g2 := zg_pos hj
  have e1 : zV d f a k * zY d f j = zg d f k * zg d f j * (zg d f k * zg d f j) * (zs d f j * zq d f k * (zs d f j * zq d f k) * zW d f a) := by
    unfold zV zY
    rw [fl_g, ← zL_g d f k]
    ac_rfl
  have e2 : zV d f b j * zY d f k = zg d f k * zg d f j * (zg d f k * zg d f j) * (zs d f k * zq d f j * (zs d f k * zq d f j) * zW d f b) := by
    unfold zV zY
    rw [fl_g, ← zL_g d f j]
    ac_rfl
  rw [e1, e2, cmpN_mul (Nat.mul_pos (Nat.mul_pos g1 g2) (Nat.mul_pos g1 g2))]
/-- how the velocities of two birds with their strikes compare -/
def vc (d : Mem) (f a k b j : Nat) : Int32 := cmpN (zV d f a k * zY d f j) (zV d f b j * zY d f k)
theorem e_cfB (F : Nat) (hF : 101 ≤ F) (c : Mem) {d : Mem} {f S L N a b k j last day : Nat} (hD : DF d f S L N) (hk : k < S) (hj : j < S) (ha : a < N) (hb : b < N) (ck : zC d f last day k) (cj : zC d f last day j) (hl : last ≤ 40000) : f_X10_compareFractions F c (lN (zV d f a k)) (lN (zY d f k)) (lN (zV d f b j)) (lN (zY d f j)) = some (vc d f a k b j, c) :=
  e_cf F hF c (zV_b hD hk ha) (zY_b hD hk ck hl).2 (zV_b hD hj hb) (zY_b hD hj cj hl).2 (zY_b hD hk ck hl).1 (zY_b hD hj cj hl).1
theorem e_overB (F : Nat) (hF : 101 ≤ F) {d m : Mem} {f S L N a b k j last day : Nat} (hD : DF d f S L N) (h : MF d m f S N) (hk : k < S) (hj : j < S) (ha : a < N) (hb : b < N) (ck : zC d f last day k) (cj : zC d f last day j) (hl : last ≤ 40000) (e1 : mJ m 86 a = lN (zs d f k)) (e2 : mJ m 87 a = lN (zq d f k)) (e3 : mJ m 86 b = lN (zs d f j)) (e4 : mJ m 87 b = lN (zq d f j)) : ∃ m', frL m m' ∧ f_X11_over F m 50 (nI f) (nI a) (nI b) = some (vc d f a k b j, m') := by
  have hN := hD.2.2.2.1
  have l1 := zL_le hD hk
  have l2 := zL_le hD hj
  have q1 := zq_le d f k
  have q2 := zq_le d f j
  have s1 := (fl_b hD hk ck hl).2.2.2
  have s2 := (fl_b hD hj cj hl).2.2.2
  have w1 := Nat.mul_le_mul s2 (show zq d f k ≤ 40000 by omega)
  have w2 := Nat.mul_le_mul s1 (show zq d f j ≤ 40000 by omega)
  obtain ⟨m', fr, e⟩ := e_over F (by omega) h.1 (p1 := nI f) (show a < 24 by omega) (show b < 24 by omega) e1 e2 e3 e4 (fun s fs => e_way F hD (h.cg fs.frR) ha) (fun s fs => e_way F hD (h.cg fs.frR) hb) (zW_le hD ha) (zW_le hD hb) (by omega) (by omega)
  refine ⟨m', fr, ?_⟩
  rw [e, cmp_ref ck.2.1 cj.2.1]
  rfl
theorem zlast_le {d : Mem} {f S L N : Nat} (hD : DF d f S L N) (p : Int32) : zlast d f p ≤ 40000 := by
  have hz := hD.2.2.2.2.2.2.2.1
  unfold zlast
  by_cases e : p = -1
  · rw [if_pos e]; omega
  · rw [if_neg e]
    by_cases e2 : zr d f + cn p < zz d f
    · rw [if_pos e2]; omega
    · rw [if_neg e2]; omega
/-- faster -/
theorem sim_faster (F : Nat) (hF : 101 ≤ F) {c m : Mem} (h : Rel c m) (p1 p2 p3 p4 : Int32) : Sim (f_X10_faster F c 0 p1 p2 p3 p4) (f_X11_faster F m 50 p1 p2 p3 p4) := by
  have hC := h.1
  have hM := h.2.1
  obtain ⟨nw, nl, hbk⟩ := h.2.2.2.2.2.2.1
  obtain ⟨L, N, hcl, Fl, fid, S, hfl⟩ := h.2.2.2.2.2.2.2
  have k2 := hcl.2.1
  have k5 := hcl.2.2.2.2.1
  have k6 := hcl.2.2.2.2.2.1
  have f1 := hfl.1
  have f3 := hfl.2.2.1
  rcases ix_or p1 (n := Fl) (by omega) with ⟨f, hf, rfl⟩ | hf
  · rcases ix_or p2 (n := N) (by omega) with ⟨a, ha, rfl⟩ | ha
    · rcases ix_or p3 (n := N) (by omega) with ⟨b, hb, rfl⟩ | hb
      · by_cases hd : rgI 400 p4
        · obtain ⟨day, hday, rfl⟩ := rgI_rg (h := 400) (by decide) hd
          have h1 := h.thr 0
          obtain ⟨nw1, nl1, hbk1⟩ := h1.2.2.2.2.2.2.1
          have hM1 := h1.2.1
          have hcl1 : Rclub c (sI m 50 2 0) L N := hcl.cg (fun _ _ _ => rfl) (fun x _ _ => mI_sI_o (by omega)) (mI_sI_j (by decide)) (mI_sI_j (by decide))
          have hfl1 : Rfls c (sI m 50 2 0) L N Fl fid S := hfl.cg (Nat.le_refl _) (Nat.le_refl _) (fun _ _ => rfl) (fun _ _ => rfl) (fun x _ _ => mI_sI_o (by omega)) (fun _ _ _ => rfl) rfl rfl rfl rfl rfl (mI_sI_j (by decide))
          obtain ⟨hD, hCF, hMF⟩ := DCM hC hM1 hcl1 hfl1 hf
          obtain ⟨b1, b2, b3, b4, b5, b6, b7⟩ := hbk1
          obtain ⟨-, ⟨u1, u2⟩, -⟩ := b7 0 (by omega)
          have u2' : mI c 19 0 = -1 ∨ rg 99999 (mI c 19 0) := by rw [u1]; exact u2
          obtain ⟨g, eg, hg⟩ := e_findEarliest F (by omega) hD hCF u2' hday
          obtain ⟨m', em, hFD⟩ := e_find F hF hD hMF (l := 0) u2' hday b4 b1 (by decide) u1.symm
          have em' : f_X11_find F (sI m 50 2 0) 50 (nI f) (0 : Int32) (nI day) = some ((), m') := em
          have hCF1 := hCF.cg (frK_49 c g)
          have hR0 : ∀ m'', frR m' m'' → Rel (wI c 49 g) m'' := fun m'' fr => h1.wk (frK_49 c g) (fun x _ _ => mI_wI_o (by omega)) (hFD.1.tr fr)
          have hC1 := hCF1.1
          have k3 := hCF1.2.1.base.1
          have c0 : mI (wI c 49 g) (fid f) 0 = nI (zfx (sI m 50 2 0) f) := hCF1.2.2.2.1
          have c00 : mI (wI c 49 g) (fid f) 1 = nI (zfy (sI m 50 2 0) f) := hCF1.2.2.2.2.1
          have hMF' := hMF.cg hFD.1
          have hM' := hMF'.1
          have wA := e_waySq F hD hCF1 ha
          have wB := e_waySq F hD hCF1 hb
          have lA := zW_le hD ha
          have lB := zW_le hD hb
          have gA := hg a (by omega)
          have gB := hg b (by omega)
          obtain ⟨mA, mA2⟩ := hFD.2.2.2 a ha
          obtain ⟨mB, mB2⟩ := hFD.2.2.2 b hb
          have u9 : f_X0_untilOf F c 17 (0 : Int32) = some (mI c 19 0, c) := by
            have v0 : vp_in (0 : Int32) 6 := vp_nI (n := 0) (by decide) (by decide)
            have y0 : (0 : Int32).toNatClampNeg = 0 := nI_cl (n := 0) (by decide)
            have bx : bi (¬ (0 : Int32) < 0 ∧ ¬ nI nl1 ≤ (0 : Int32)) = 1 := bx_in (k := 0) (n := nl1) (by omega) (by omega)
            simp only [f_X0_untilOf, e_X0_hasList, hC, b5, bx, v0, y0, nx_eq, ck_true, br_true, br_false, bd_eq, de_eq, mN_sI_, mK_sI_, mL_sI_, mI_sI_ap, mJ_sI_, mR_sI_, mN_sJ_, mK_sJ_, mL_sJ_, mI_sJ_, mJ_sJ_ap, mR_sJ_, mN_sR_, mK_sR_, mL_sR_, mI_sR_, mJ_sR_, mR_sR_ap, Nat.reduceEqDiff, Nat.reduceAdd, ↓reduceIte, and_true, true_and, and_false, false_and, or_true, true_or, or_false, false_or, not_true_eq_false, not_false_eq_true, i10, i01, ii01, ii02, ii03, ii04, ii05, ii12, ii13, ii14, ii15, ii20, ii21, ii23, ii24, ii25, ii30, ii31, ii32, ii34, ii35, ii40, ii41, ii42, ii43, ii45, ii50, ii51, ii52, ii53, ii54, bi_z, Option.some.injEq, reduceCtorEq, Nat.reduceLeDiff]
          have va := vp_nI (show a < 24 by omega) (show 24 < 2147483648 by decide)
          have vb := vp_nI (show b < 24 by omega) (show 24 < 2147483648 by decide)
          have na := nI_cl (show a < 2147483648 by omega)
          have nb := nI_cl (show b < 2147483648 by omega)
          have e49 : mI (wI c 49 g) 49 = g := mI_wI_e
          have kf : mK c (fid f) = 3 := hCF.2.1.base.1
          generalize hd0 : sI m 50 2 0 = d at *
          generalize hc1 : wI c 49 g = c1 at *
          have qA : (lN (zW d f a) = lN 0) = (zW d f a = 0) := lNeq (by omega) (by decide)
          have qB : (lN (zW d f b) = lN 0) = (zW d f b = 0) := lNeq (by omega) (by decide)
          by_cases pa : zW d f a = 0
          · have t1 : mI m' 85 a < 0 := by rw [mA, eB_noway (P := fun b => 0 < zW d f b) (by omega)]; decide
            refine Sim.of (r := -1) (c' := c1) (m' := m') ?_ ?_ (hR0 m' (frR.rf m'))
            · simp only [f_X10_faster, e_fA_in F hC hfl hf, e_X1_hasBird, e_X10_isDay, k5, bx_in ha (show N < 2147483648 by omega), bx_in hb (show N < 2147483648 by omega), hd, hC, u9, kf, eg, hC1, k3, c0, c00, wA, wB, va, vb, cmp_eq0, lN0, qA, pa, nx_eq, ck_true, br_true, br_false, bd_eq, de_eq, mN_sI_, mK_sI_, mL_sI_, mI_sI_ap, mJ_sI_, mR_sI_, mN_sJ_, mK_sJ_, mL_sJ_, mI_sJ_, mJ_sJ_ap, mR_sJ_, mN_sR_, mK_sR_, mL_sR_, mI_sR_, mJ_sR_, mR_sR_ap, Nat.reduceEqDiff, Nat.reduceAdd, ↓reduceIte, and_true, true_and, and_false, false_and, or_true, true_or, or_false, false_or, not_true_eq_false, not_false_eq_true, i10, i01, ii01, ii02, ii03, ii04, ii05, ii12, ii13, ii14, ii15, ii20, ii21, ii23, ii24, ii25, ii30, ii31, ii32, ii34, ii35, ii40, ii41, ii42, ii43, ii45, ii50, ii51, ii52, ii53, ii54, bi_z, Option.some.injEq, reduceCtorEq, Nat.reduceLeDiff]
            · simp only [f_X11_faster, hd0, e_X11_isFlight, e_X11_isBird, e_X11_isDay, hfl1.2.2.1, hcl1.2.2.2.2.2.1, bx_in hf (show Fl < 2147483648 by omega), bx_in ha (show N < 2147483648 by omega), bx_in hb (show N < 2147483648 by omega), hd, hM, hM1, em', hM', va, vb, na, nb, t1, nx_eq, ck_true, br_true, br_false, bd_eq, de_eq, mN_sI_, mK_sI_, mL_sI_, mI_sI_ap, mJ_sI_, mR_sI_, mN_sJ_, mK_sJ_, mL_sJ_, mI_sJ_, mJ_sJ_ap, mR_sJ_, mN_sR_, mK_sR_, mL_sR_, mI_sR_, mJ_sR_, mR_sR_ap, Nat.reduceEqDiff, Nat.reduceAdd, ↓reduceIte, and_true, true_and, and_false, false_and, or_true, true_or, or_false, false_or, not_true_eq_false, not_false_eq_true, i10, i01, ii01, ii02, ii03, ii04, ii05, ii12, ii13, ii14, ii15, ii20, ii21, ii23, ii24, ii25, ii30, ii31, ii32, ii34, ii35, ii40, ii41, ii42, ii43, ii45, ii50, ii51, ii52, ii53, ii54, bi_z, Option.some.injEq, reduceCtorEq, Nat.reduceLeDiff]
          · by_cases pb : zW d f b = 0
            · have t2 : ¬ 0 ≤ mI m' 85 b := by rw [mB, eB_noway (P := fun b => 0 < zW d f b) (by omega)]; decide
              refine Sim.of (r := -1) (c' := c1) (m' := m') ?_ ?_ (hR0 m' (frR.rf m'))
              · simp only [f_X10_faster, e_fA_in F hC hfl hf, e_X1_hasBird, e_X10_isDay, k5, bx_in ha (show N < 2147483648 by omega), bx_in hb (show N < 2147483648 by omega), hd, hC, u9, kf, eg, hC1, k3, c0, c00, wA, wB, va, vb, cmp_eq0, lN0, qA, qB, pa, pb, nx_eq, ck_true, br_true, br_false, bd_eq, de_eq, mN_sI_, mK_sI_, mL_sI_, mI_sI_ap, mJ_sI_, mR_sI_, mN_sJ_, mK_sJ_, mL_sJ_, mI_sJ_, mJ_sJ_ap, mR_sJ_, mN_sR_, mK_sR_, mL_sR_, mI_sR_, mJ_sR_, mR_sR_ap, Nat.reduceEqDiff, Nat.reduceAdd, ↓reduceIte, and_true, true_and, and_false, false_and, or_true, true_or, or_false, false_or, not_true_eq_false, not_false_eq_true, i10, i01, ii01, ii02, ii03, ii04, ii05, ii12, ii13, ii14, ii15, ii20, ii21, ii23, ii24, ii25, ii30, ii31, ii32, ii34, ii35, ii40, ii41, ii42, ii43, ii45, ii50, ii51, ii52, ii53, ii54, bi_z, Option.some.injEq, reduceCtorEq, Nat.reduceLeDiff]
              · by_cases t1 : mI m' 85 a < 0
                · simp only [f_X11_faster, hd0, e_X11_isFlight, e_X11_isBird, e_X11_isDay, hfl1.2.2.1, hcl1.2.2.2.2.2.1, bx_in hf (show Fl < 2147483648 by omega), bx_in ha (show N < 2147483648 by omega), bx_in hb (show N < 2147483648 by omega), hd, hM, hM1, em', hM', va, vb, na, nb, t1, nx_eq, ck_true, br_true, br_false, bd_eq, de_eq, mN_sI_, mK_sI_, mL_sI_, mI_sI_ap, mJ_sI_, mR_sI_, mN_sJ_, mK_sJ_, mL_sJ_, mI_sJ_, mJ_sJ_ap, mR_sJ_, mN_sR_, mK_sR_, mL_sR_, mI_sR_, mJ_sR_, mR_sR_ap, Nat.reduceEqDiff, Nat.reduceAdd, ↓reduceIte, and_true, true_and, and_false, false_and, or_true, true_or, or_false, false_or, not_true_eq_false, not_false_eq_true, i10, i01, ii01, ii02, ii03, ii04, ii05, ii12, ii13, ii14, ii15, ii20, ii21, ii23, ii24, ii25, ii30, ii31, ii32, ii34, ii35, ii40, ii41, ii42, ii43, ii45, ii50, ii51, ii52, ii53, ii54, bi_z, Option.some.injEq, reduceCtorEq, Nat.reduceLeDiff]
                · simp only [f_X11_faster, hd0, e_X11_isFlight, e_X11_isBird, e_X11_isDay, hfl1.2.2.1, hcl1.2.2.2.2.2.1, bx_in hf (show Fl < 2147483648 by omega), bx_in ha (show N < 2147483648 by omega), bx_in hb (show N < 2147483648 by omega), hd, hM, hM1, em', hM', va, vb, na, nb, t1, t2, nx_eq, ck_true, br_true, br_false, bd_eq, de_eq, mN_sI_, mK_sI_, mL_sI_, mI_sI_ap, mJ_sI_, mR_sI_, mN_sJ_, mK_sJ_, mL_sJ_, mI_sJ_, mJ_sJ_ap, mR_sJ_, mN_sR_, mK_sR_, mL_sR_, mI_sR_, mJ_sR_, mR_sR_ap, Nat.reduceEqDiff, Nat.reduceAdd, ↓reduceIte, and_true, true_and, and_false, false_and, or_true, true_or, or_false, false_or, not_true_eq_false, not_false_eq_true, i10, i01, ii01, ii02, ii03, ii04, ii05, ii12, ii13, ii14, ii15, ii20, ii21, ii23, ii24, ii25, ii30, ii31, ii32, ii34, ii35, ii40, ii41, ii42, ii43, ii45, ii50, ii51, ii52, ii53, ii54, bi_z, Option.some.injEq, reduceCtorEq, Nat.reduceLeDiff]
            · rw [eB_way (P := fun b => 0 < zW d f b) (show 0 < zW d f a by omega)] at mA mA2
              rw [eB_way (P := fun b => 0 < zW d f b) (show 0 < zW d f b by omega)] at mB mB2
              cases ea : eB (zC d f (zlast d f (mI c 19 0)) day) (zE d f) (zB d f) (S f) a with
              | none =>
                rw [ea] at mA gA
                have t1 : mI m' 85 a < 0 := by rw [mA]; decide
                have g1 : g a = -1 := gA
                refine Sim.of (r := -1) (c' := c1) (m' := m') ?_ ?_ (hR0 m' (frR.rf m'))
                · simp only [f_X10_faster, e_fA_in F hC hfl hf, e_X1_hasBird, e_X10_isDay, k5, bx_in ha (show N < 2147483648 by omega), bx_in hb (show N < 2147483648 by omega), hd, hC, u9, kf, eg, hC1, k3, c0, c00, wA, wB, va, vb, na, nb, cmp_eq0, lN0, qA, qB, pa, pb, e49, g1, nx_eq, ck_true, br_true, br_false, bd_eq, de_eq, mN_sI_, mK_sI_, mL_sI_, mI_sI_ap, mJ_sI_, mR_sI_, mN_sJ_, mK_sJ_, mL_sJ_, mI_sJ_, mJ_sJ_ap, mR_sJ_, mN_sR_, mK_sR_, mL_sR_, mI_sR_, mJ_sR_, mR_sR_ap, Nat.reduceEqDiff, Nat.reduceAdd, ↓reduceIte, and_true, true_and, and_false, false_and, or_true, true_or, or_false, false_or, not_true_eq_false, not_false_eq_true, i10, i01, ii01, ii02, ii03, ii04, ii05, ii12, ii13, ii14, ii15, ii20, ii21, ii23, ii24, ii25, ii30, ii31, ii32, ii34, ii35, ii40, ii41, ii42, ii43, ii45, ii50, ii51, ii52, ii53, ii54, bi_z, Option.some.injEq, reduceCtorEq, Nat.reduceLeDiff]
                · simp only [f_X11_faster, hd0, e_X11_isFlight, e_X11_isBird, e_X11_isDay, hfl1.2.2.1, hcl1.2.2.2.2.2.1, bx_in hf (show Fl < 2147483648 by omega), bx_in ha (show N < 2147483648 by omega), bx_in hb (show N < 2147483648 by omega), hd, hM, hM1, em', hM', va, vb, na, nb, t1, nx_eq, ck_true, br_true, br_false, bd_eq, de_eq, mN_sI_, mK_sI_, mL_sI_, mI_sI_ap, mJ_sI_, mR_sI_, mN_sJ_, mK_sJ_, mL_sJ_, mI_sJ_, mJ_sJ_ap, mR_sJ_, mN_sR_, mK_sR_, mL_sR_, mI_sR_, mJ_sR_, mR_sR_ap, Nat.reduceEqDiff, Nat.reduceAdd, ↓reduceIte, and_true, true_and, and_false, false_and, or_true, true_or, or_false, false_or, not_true_eq_false, not_false_eq_true, i10, i01, ii01, ii02, ii03, ii04, ii05, ii12, ii13, ii14, ii15, ii20, ii21, ii23, ii24, ii25, ii30, ii31, ii32, ii34, ii35, ii40, ii41, ii42, ii43, ii45, ii50, ii51, ii52, ii53, ii54, bi_z, Option.some.injEq, reduceCtorEq, Nat.reduceLeDiff]
              | some ka =>
                obtain ⟨ja1, ja2, -⟩ := eB_some ea
                rw [ea] at mA gA
                have hS := hD.2.1
                have g1 : g a = nI ka := gA
                have g1n : ¬ (nI ka : Int32) = -1 := fun e => absurd (nI_pos (n := ka) (by omega)) (by rw [e]; decide)
                have t1 : ¬ mI m' 85 a < 0 := by rw [mA]; exact nI_pos (by omega)
                obtain ⟨oa1, oa2⟩ := mA2 ka ea
                cases eb : eB (zC d f (zlast d f (mI c 19 0)) day) (zE d f) (zB d f) (S f) b with
                | none =>
                  rw [eb] at mB gB
                  have t2 : ¬ 0 ≤ mI m' 85 b := by rw [mB]; decide
                  have g2 : g b = -1 := gB
                  refine Sim.of (r := -1) (c' := c1) (m' := m') ?_ ?_ (hR0 m' (frR.rf m'))
                  · simp only [f_X10_faster, e_fA_in F hC hfl hf, e_X1_hasBird, e_X10_isDay, k5, bx_in ha (show N < 2147483648 by omega), bx_in hb (show N < 2147483648 by omega), hd, hC, u9, kf, eg, hC1, k3, c0, c00, wA, wB, va, vb, na, nb, cmp_eq0, lN0, qA, qB, pa, pb, e49, g1, g1n, g2, nx_eq, ck_true, br_true, br_false, bd_eq, de_eq, mN_sI_, mK_sI_, mL_sI_, mI_sI_ap, mJ_sI_, mR_sI_, mN_sJ_, mK_sJ_, mL_sJ_, mI_sJ_, mJ_sJ_ap, mR_sJ_, mN_sR_, mK_sR_, mL_sR_, mI_sR_, mJ_sR_, mR_sR_ap, Nat.reduceEqDiff, Nat.reduceAdd, ↓reduceIte, and_true, true_and, and_false, false_and, or_true, true_or, or_false, false_or, not_true_eq_false, not_false_eq_true, i10, i01, ii01, ii02, ii03, ii04, ii05, ii12, ii13, ii14, ii15, ii20, ii21, ii23, ii24, ii25, ii30, ii31, ii32, ii34, ii35, ii40, ii41, ii42, ii43, ii45, ii50, ii51, ii52, ii53, ii54, bi_z, Option.some.injEq, reduceCtorEq, Nat.reduceLeDiff]
                  · simp only [f_X11_faster, hd0, e_X11_isFlight, e_X11_isBird, e_X11_isDay, hfl1.2.2.1, hcl1.2.2.2.2.2.1, bx_in hf (show Fl < 2147483648 by omega), bx_in ha (show N < 2147483648 by omega), bx_in hb (show N < 2147483648 by omega), hd, hM, hM1, em', hM', va, vb, na, nb, t1, t2, nx_eq, ck_true, br_true, br_false, bd_eq, de_eq, mN_sI_, mK_sI_, mL_sI_, mI_sI_ap, mJ_sI_, mR_sI_, mN_sJ_, mK_sJ_, mL_sJ_, mI_sJ_, mJ_sJ_ap, mR_sJ_, mN_sR_, mK_sR_, mL_sR_, mI_sR_, mJ_sR_, mR_sR_ap, Nat.reduceEqDiff, Nat.reduceAdd, ↓reduceIte, and_true, true_and, and_false, false_and, or_true, true_or, or_false, false_or, not_true_eq_false, not_false_eq_true, i10, i01, ii01, ii02, ii03, ii04, ii05, ii12, ii13, ii14, ii15, ii20, ii21, ii23, ii24, ii25, ii30, ii31, ii32, ii34, ii35, ii40, ii41, ii42, ii43, ii45, ii50, ii51, ii52, ii53, ii54, bi_z, Option.some.injEq, reduceCtorEq, Nat.reduceLeDiff]
                | some kb =>
                  obtain ⟨jb1, jb2, -⟩ := eB_some eb
                  rw [eb] at mB gB
                  have g2 : g b = nI kb := gB
                  have g2n : ¬ (nI kb : Int32) = -1 := fun e => absurd (nI_pos (n := kb) (by omega)) (by rw [e]; decide)
                  have t2 : 0 ≤ mI m' 85 b := by rw [mB]; exact nI_pos' (by omega)
                  obtain ⟨ob1, ob2⟩ := mB2 kb eb
                  have eF := e_cfB F hF c1 hD ja1 jb1 ha hb ja2 jb2 (zlast_le hD _)
                  obtain ⟨m2, fr, eO⟩ := e_overB F hF hD hMF' ja1 jb1 ha hb ja2 jb2 (zlast_le hD _) oa1 oa2 ob1 ob2
                  have rC : f_X10_faster F c 0 (nI f) (nI a) (nI b) (nI day) = br (0 ≤ vc d f a ka b kb) (some (vc d f a ka b kb, c1)) (some ((2 : Int32), c1)) := by
                    simp only [f_X10_faster, e_fA_in F hC hfl hf, e_X1_hasBird, e_X10_isDay, k5, bx_in ha (show N < 2147483648 by omega), bx_in hb (show N < 2147483648 by omega), hd, hC, u9, kf, eg, hC1, k3, c0, c00, wA, wB, va, vb, na, nb, cmp_eq0, lN0, qA, qB, pa, pb, e49, g1, g1n, g2, g2n, e_vU F hD hCF1 ja1, e_vU F hD hCF1 jb1, e_vL F hD hCF1 ja1 ja2, e_vL F hD hCF1 jb1 jb2, eF, nx_eq, ck_true, br_true, br_false, bd_eq, de_eq, mN_sI_, mK_sI_, mL_sI_, mI_sI_ap, mJ_sI_, mR_sI_, mN_sJ_, mK_sJ_, mL_sJ_, mI_sJ_, mJ_sJ_ap, mR_sJ_, mN_sR_, mK_sR_, mL_sR_, mI_sR_, mJ_sR_, mR_sR_ap, Nat.reduceEqDiff, Nat.reduceAdd, ↓reduceIte, and_true, true_and, and_false, false_and, or_true, true_or, or_false, false_or, not_true_eq_false, not_false_eq_true, i10, i01, ii01, ii02, ii03, ii04, ii05, ii12, ii13, ii14, ii15, ii20, ii21, ii23, ii24, ii25, ii30, ii31, ii32, ii34, ii35, ii40, ii41, ii42, ii43, ii45, ii50, ii51, ii52, ii53, ii54, bi_z, Option.some.injEq, reduceCtorEq, Nat.reduceLeDiff]
                  have rM : f_X11_faster F m 50 (nI f) (nI a) (nI b) (nI day) = br (vc d f a ka b kb ≤ 0) (br (0 ≤ vc d f a ka b kb) (some ((0 : Int32), m2)) (some ((2 : Int32), m2))) (some ((1 : Int32), m2)) := by
                    simp only [f_X11_faster, hd0, e_X11_isFlight, e_X11_isBird, e_X11_isDay, hfl1.2.2.1, hcl1.2.2.2.2.2.1, bx_in hf (show Fl < 2147483648 by omega), bx_in ha (show N < 2147483648 by omega), bx_in hb (show N < 2147483648 by omega), hd, hM, hM1, em', hM', va, vb, na, nb, t1, t2, eO, nx_eq, ck_true, br_true, br_false, bd_eq, de_eq, mN_sI_, mK_sI_, mL_sI_, mI_sI_ap, mJ_sI_, mR_sI_, mN_sJ_, mK_sJ_, mL_sJ_, mI_sJ_, mJ_sJ_ap, mR_sJ_, mN_sR_, mK_sR_, mL_sR_, mI_sR_, mJ_sR_, mR_sR_ap, Nat.reduceEqDiff, Nat.reduceAdd, ↓reduceIte, and_true, true_and, and_false, false_and, or_true, true_or, or_false, false_or, not_true_eq_false, not_false_eq_true, i10, i01, ii01, ii02, ii03, ii04, ii05, ii12, ii13, ii14, ii15, ii20, ii21, ii23, ii24, ii25, ii30, ii31, ii32, ii34, ii35, ii40, ii41, ii42, ii43, ii45, ii50, ii51, ii52, ii53, ii54, bi_z, Option.some.injEq, reduceCtorEq, Nat.reduceLeDiff]
                  rw [rC, rM]
                  unfold vc
                  rcases Nat.lt_trichotomy (zV d f a ka * zY d f kb) (zV d f b kb * zY d f ka) with w | w | w
                  · rw [cmpN_lt w, br_f1 (show ¬ (0 : Int32) ≤ -1 by decide), br_t1 (show (-1 : Int32) ≤ 0 by decide), br_f1 (show ¬ (0 : Int32) ≤ -1 by decide)]
                    exact Sim.of rfl rfl (hR0 m2 fr.frR)
                  · rw [cmpN_eq w, br_t1 (show (0 : Int32) ≤ 0 by decide), br_t1 (show (0 : Int32) ≤ 0 by decide), br_t1 (show (0 : Int32) ≤ 0 by decide)]
                    exact Sim.of rfl rfl (hR0 m2 fr.frR)
                  · rw [cmpN_gt w, br_t1 (show (0 : Int32) ≤ 1 by decide), br_f1 (show ¬ (1 : Int32) ≤ 0 by decide)]
                    exact Sim.of rfl rfl (hR0 m2 fr.frR)
        · refine Sim.of (r := -1) (c' := c) (m' := sI m 50 2 0) ?_ ?_ (h.thr 0)
          · simp only [f_X10_faster, e_fA_in F hC hfl hf, e_X1_hasBird, e_X10_isDay, k5, bx_in ha (show N < 2147483648 by omega), bx_in hb (show N < 2147483648 by omega), hd, hC, nx_eq, ck_true, br_true, br_false, bd_eq, de_eq, mN_sI_, mK_sI_, mL_sI_, mI_sI_ap, mJ_sI_, mR_sI_, mN_sJ_, mK_sJ_, mL_sJ_, mI_sJ_, mJ_sJ_ap, mR_sJ_, mN_sR_, mK_sR_, mL_sR_, mI_sR_, mJ_sR_, mR_sR_ap, Nat.reduceEqDiff, Nat.reduceAdd, ↓reduceIte, and_true, true_and, and_false, false_and, or_true, true_or, or_false, false_or, not_true_eq_false, not_false_eq_true, i10, i01, ii01, ii02, ii03, ii04, ii05, ii12, ii13, ii14, ii15, ii20, ii21, ii23, ii24, ii25, ii30, ii31, ii32, ii34, ii35, ii40, ii41, ii42, ii43, ii45, ii50, ii51, ii52, ii53, ii54, bi_z, Option.some.injEq, reduceCtorEq, Nat.reduceLeDiff]
          · simp only [f_X11_faster, e_X11_isFlight, e_X11_isBird, e_X11_isDay, f3, k6, bx_in hf (show Fl < 2147483648 by omega), bx_in ha (show N < 2147483648 by omega), bx_in hb (show N < 2147483648 by omega), hd, hM, nx_eq, ck_true, br_true, br_false, bd_eq, de_eq, mN_sI_, mK_sI_, mL_sI_, mI_sI_ap, mJ_sI_, mR_sI_, mN_sJ_, mK_sJ_, mL_sJ_, mI_sJ_, mJ_sJ_ap, mR_sJ_, mN_sR_, mK_sR_, mL_sR_, mI_sR_, mJ_sR_, mR_sR_ap, Nat.reduceEqDiff, Nat.reduceAdd, ↓reduceIte, and_true, true_and, and_false, false_and, or_true, true_or, or_false, false_or, not_true_eq_false, not_false_eq_true, i10, i01, ii01, ii02, ii03, ii04, ii05, ii12, ii13, ii14, ii15, ii20, ii21, ii23, ii24, ii25, ii30, ii31, ii32, ii34, ii35, ii40, ii41, ii42, ii43, ii45, ii50, ii51, ii52, ii53, ii54, bi_z, Option.some.injEq, reduceCtorEq, Nat.reduceLeDiff]
      · refine Sim.of (r := -1) (c' := c) (m' := sI m 50 2 0) ?_ ?_ (h.thr 0)
        · simp only [f_X10_faster, e_fA_in F hC hfl hf, e_X1_hasBird, k5, bx_in ha (show N < 2147483648 by omega), bx_out hb, hC, nx_eq, ck_true, br_true, br_false, bd_eq, de_eq, mN_sI_, mK_sI_, mL_sI_, mI_sI_ap, mJ_sI_, mR_sI_, mN_sJ_, mK_sJ_, mL_sJ_, mI_sJ_, mJ_sJ_ap, mR_sJ_, mN_sR_, mK_sR_, mL_sR_, mI_sR_, mJ_sR_, mR_sR_ap, Nat.reduceEqDiff, Nat.reduceAdd, ↓reduceIte, and_true, true_and, and_false, false_and, or_true, true_or, or_false, false_or, not_true_eq_false, not_false_eq_true, i10, i01, ii01, ii02, ii03, ii04, ii05, ii12, ii13, ii14, ii15, ii20, ii21, ii23, ii24, ii25, ii30, ii31, ii32, ii34, ii35, ii40, ii41, ii42, ii43, ii45, ii50, ii51, ii52, ii53, ii54, bi_z, Option.some.injEq, reduceCtorEq, Nat.reduceLeDiff]
        · simp only [f_X11_faster, e_X11_isFlight, e_X11_isBird, f3, k6, bx_in hf (show Fl < 2147483648 by omega), bx_in ha (show N < 2147483648 by omega), bx_out hb, hM, nx_eq, ck_true, br_true, br_false, bd_eq, de_eq, mN_sI_, mK_sI_, mL_sI_, mI_sI_ap, mJ_sI_, mR_sI_, mN_sJ_, mK_sJ_, mL_sJ_, mI_sJ_, mJ_sJ_ap, mR_sJ_, mN_sR_, mK_sR_, mL_sR_, mI_sR_, mJ_sR_, mR_sR_ap, Nat.reduceEqDiff, Nat.reduceAdd, ↓reduceIte, and_true, true_and, and_false, false_and, or_true, true_or, or_false, false_or, not_true_eq_false, not_false_eq_true, i10, i01, ii01, ii02, ii03, ii04, ii05, ii12, ii13, ii14, ii15, ii20, ii21, ii23, ii24, ii25, ii30, ii31, ii32, ii34, ii35, ii40, ii41, ii42, ii43, ii45, ii50, ii51, ii52, ii53, ii54, bi_z, Option.some.injEq, reduceCtorEq, Nat.reduceLeDiff]
    · refine Sim.of (r := -1) (c' := c) (m' := sI m 50 2 0) ?_ ?_ (h.thr 0)
      · simp only [f_X10_faster, e_fA_in F hC hfl hf, e_X1_hasBird, k5, bx_out ha, hC, nx_eq, ck_true, br_true, br_false, bd_eq, de_eq, mN_sI_, mK_sI_, mL_sI_, mI_sI_ap, mJ_sI_, mR_sI_, mN_sJ_, mK_sJ_, mL_sJ_, mI_sJ_, mJ_sJ_ap, mR_sJ_, mN_sR_, mK_sR_, mL_sR_, mI_sR_, mJ_sR_, mR_sR_ap, Nat.reduceEqDiff, Nat.reduceAdd, ↓reduceIte, and_true, true_and, and_false, false_and, or_true, true_or, or_false, false_or, not_true_eq_false, not_false_eq_true, i10, i01, ii01, ii02, ii03, ii04, ii05, ii12, ii13, ii14, ii15, ii20, ii21, ii23, ii24, ii25, ii30, ii31, ii32, ii34, ii35, ii40, ii41, ii42, ii43, ii45, ii50, ii51, ii52, ii53, ii54, bi_z, Option.some.injEq, reduceCtorEq, Nat.reduceLeDiff]
      · simp only [f_X11_faster, e_X11_isFlight, e_X11_isBird, f3, k6, bx_in hf (show Fl < 2147483648 by omega), bx_out ha, hM, nx_eq, ck_true, br_true, br_false, bd_eq, de_eq, mN_sI_, mK_sI_, mL_sI_, mI_sI_ap, mJ_sI_, mR_sI_, mN_sJ_, mK_sJ_, mL_sJ_, mI_sJ_, mJ_sJ_ap, mR_sJ_, mN_sR_, mK_sR_, mL_sR_, mI_sR_, mJ_sR_, mR_sR_ap, Nat.reduceEqDiff, Nat.reduceAdd, ↓reduceIte, and_true, true_and, and_false, false_and, or_true, true_or, or_false, false_or, not_true_eq_false, not_false_eq_true, i10, i01, ii01, ii02, ii03, ii04, ii05, ii12, ii13, ii14, ii15, ii20, ii21, ii23, ii24, ii25, ii30, ii31, ii32, ii34, ii35, ii40, ii41, ii42, ii43, ii45, ii50, ii51, ii52, ii53, ii54, bi_z, Option.some.injEq, reduceCtorEq, Nat.reduceLeDiff]
  · refine Sim.of (r := -1) (c' := c) (m' := sI m 50 2 0) ?_ ?_ (h.thr 0)
    · simp only [f_X10_faster, e_fA_out F hC hfl hf, hC, nx_eq, ck_true, br_true, br_false, bd_eq, de_eq, mN_sI_, mK_sI_, mL_sI_, mI_sI_ap, mJ_sI_, mR_sI_, mN_sJ_, mK_sJ_, mL_sJ_, mI_sJ_, mJ_sJ_ap, mR_sJ_, mN_sR_, mK_sR_, mL_sR_, mI_sR_, mJ_sR_, mR_sR_ap, Nat.reduceEqDiff, Nat.reduceAdd, ↓reduceIte, and_true, true_and, and_false, false_and, or_true, true_or, or_false, false_or, not_true_eq_false, not_false_eq_true, i10, i01, ii01, ii02, ii03, ii04, ii05, ii12, ii13, ii14, ii15, ii20, ii21, ii23, ii24, ii25, ii30, ii31, ii32, ii34, ii35, ii40, ii41, ii42, ii43, ii45, ii50, ii51, ii52, ii53, ii54, bi_z, Option.some.injEq, reduceCtorEq, Nat.reduceLeDiff]
    · simp only [f_X11_faster, e_X11_isFlight, f3, bx_out hf, hM, nx_eq, ck_true, br_true, br_false, bd_eq, de_eq, mN_sI_, mK_sI_, mL_sI_, mI_sI_ap, mJ_sI_, mR_sI_, mN_sJ_, mK_sJ_, mL_sJ_, mI_sJ_, mJ_sJ_ap, mR_sJ_, mN_sR_, mK_sR_, mL_sR_, mI_sR_, mJ_sR_, mR_sR_ap, Nat.reduceEqDiff, Nat.reduceAdd, ↓reduceIte, and_true, true_and, and_false, false_and, or_true, true_or, or_false, false_or, not_true_eq_false, not_false_eq_true, i10, i01, ii01, ii02, ii03, ii04, ii05, ii12, ii13, ii14, ii15, ii20, ii21, ii23, ii24, ii25, ii30, ii31, ii32, ii34, ii35, ii40, ii41, ii42, ii43, ii45, ii50, ii51, ii52, ii53, ii54, bi_z, Option.some.injEq, reduceCtorEq, Nat.reduceLeDiff]
