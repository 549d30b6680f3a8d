/-! a text is read -/
def anC (c : Mem) (D sc : Nat) : Mem := sI (sI (sI (sI (sI (sI c 9 D (-1)) 10 D (-1)) 13 D 0) 11 D (nI sc)) 12 D (nI sc)) 8 9 (nI (D + 1))
def anM (m : Mem) (X : Nat) : Mem := sI (sI (sI (sI m 77 X (-1)) 78 X (-1)) 79 X (-1)) 81 X (-1)
theorem e_addList (F : Nat) {c : Mem} (hC : shC c) {D sc : Nat} (hD : D < 6) (h9 : mI c 8 9 = nI D) (h8 : mI c 8 8 = nI sc) : f_X0_addList F c 8 = some ((), anC c D sc) := by
  have g : ¬ (6 : Int32) ≤ nI D := nI_ge (b := 6) hD (by decide)
  have v := vp_nI hD (show 6 < 2147483648 by decide)
  have n' := nI_cl (show D < 2147483648 by omega)
  unfold anC
  simp only [f_X0_addList, hC, h9, h8, g, v, n', nI_1, nx_eq, ck_true, br_true, br_false, bd_eq, de_eq, mN_sI_, mK_sI_, mL_sI_, mI_sI_ap, mJ_sI_, mR_sI_, mN_sJ_, mK_sJ_, mL_sJ_, mI_sJ_, mJ_sJ_ap, mR_sJ_, mN_sR_, mK_sR_, mL_sR_, mI_sR_, mJ_sR_, mR_sR_ap, Nat.reduceEqDiff, Nat.reduceAdd, ↓reduceIte, and_true, true_and, and_false, false_and, or_true, true_or, or_false, false_or, not_true_eq_false, not_false_eq_true, i10, i01, ii01, ii02, ii03, ii04, ii05, ii12, ii13, ii14, ii15, ii20, ii21, ii23, ii24, ii25, ii30, ii31, ii32, ii34, ii35, ii40, ii41, ii42, ii43, ii45, ii50, ii51, ii52, ii53, ii54, bi_z, Option.some.injEq, reduceCtorEq, Nat.reduceLeDiff]
theorem an_fr (c : Mem) (D sc : Nat) : frB c (anC c D sc) := (((((frB.sI (by omega)).tr (frB.sI (by omega))).tr (frB.sI (by omega))).tr (frB.sI (by omega))).tr (frB.sI (by omega))).tr (frB.sI (by omega))
theorem an_l (c : Mem) {D sc x l : Nat} (hx : 9 ≤ x) (hl : l ≠ D) : mI (anC c D sc) x l = mI c x l := by
  have h1 : (l = D) = False := eq_false hl
  have h2 : (x = 8) = False := eq_false (by omega)
  simp only [anC, mI_sI_ap, h1, h2, and_false, false_and, ↓reduceIte]
theorem an_o (c : Mem) {D sc x : Nat} (hx : x < 8 ∨ 14 ≤ x) : mI (anC c D sc) x = mI c x := by
  unfold anC
  rw [mI_sI_o (by omega), mI_sI_o (by omega), mI_sI_o (by omega), mI_sI_o (by omega), mI_sI_o (by omega), mI_sI_o (by omega)]
theorem an_e (c : Mem) (D sc : Nat) : mI (anC c D sc) 9 D = -1 ∧ mI (anC c D sc) 10 D = -1 ∧ mI (anC c D sc) 13 D = 0 ∧ mI (anC c D sc) 11 D = nI sc ∧ mI (anC c D sc) 12 D = nI sc ∧ mI (anC c D sc) 8 9 = nI (D + 1) ∧ mI (anC c D sc) 8 8 = mI c 8 8 := by
  unfold anC
  refine ⟨?_, ?_, ?_, ?_, ?_, mI_sI_e, ?_⟩
  · rw [mI_sI_o (by decide), mI_sI_o (by decide), mI_sI_o (by decide), mI_sI_o (by decide), mI_sI_o (by decide), mI_sI_e]
  · rw [mI_sI_o (by decide), mI_sI_o (by decide), mI_sI_o (by decide), mI_sI_o (by decide), mI_sI_e]
  · rw [mI_sI_o (by decide), mI_sI_o (by decide), mI_sI_o (by decide), mI_sI_e]
  · rw [mI_sI_o (by decide), mI_sI_o (by decide), mI_sI_e]
  · rw [mI_sI_o (by decide), mI_sI_e]
  · rw [mI_sI_j (by decide), mI_sI_o (by decide), mI_sI_o (by decide), mI_sI_o (by decide), mI_sI_o (by decide), mI_sI_o (by decide)]
theorem am_fr (m : Mem) (X : Nat) : frW X m (anM m X) := (((frW.lim (q := 2) (Or.inl rfl)).tr (frW.lim (q := 3) (Or.inr rfl))).tr frW.s79).tr frW.s81
theorem am_e (m : Mem) (X : Nat) : mI (anM m X) 77 X = -1 ∧ mI (anM m X) 78 X = -1 ∧ mI (anM m X) 79 X = -1 ∧ mI (anM m X) 81 X = -1 := by
  unfold anM
  refine ⟨?_, ?_, ?_, mI_sI_e⟩
  · rw [mI_sI_o (by decide), mI_sI_o (by decide), mI_sI_o (by decide), mI_sI_e]
  · rw [mI_sI_o (by decide), mI_sI_o (by decide), mI_sI_e]
  · rw [mI_sI_o (by decide), mI_sI_e]
theorem am_o (m : Mem) {X x : Nat} (hx : x < 77 ∨ 81 < x ∨ x = 80) : mI (anM m X) x = mI m x := by
  unfold anM
  rw [mI_sI_o (by omega), mI_sI_o (by omega), mI_sI_o (by omega), mI_sI_o (by omega)]
theorem x_six {nw D : Nat} (h : nw ≤ 1) : ((6 : Int32) - ((6 : Int32) * nI nw)) + nI D = nI (6 - 6 * nw + D) := by
  rcases (show nw = 0 ∨ nw = 1 by omega) with rfl | rfl
  · rw [show (6 : Int32) - (6 : Int32) * nI 0 = nI 6 from by decide, nI_add]
  · rw [show (6 : Int32) - (6 : Int32) * nI 1 = nI 0 from by decide, nI_add]
theorem L_list (F : Nat) (hF : 1000 ≤ F) {B : Nat → Nat} {n z nw H D i sc : Nat} {c m : Mem} (hz : TZ B n z) (hD : D < 6) (hnw : nw ≤ 1) (hH : H = 6 - 6 * nw) (h31 : mI m 50 31 = nI nw) (h : TS B n z H D c m i sc) (K : Mem → Int32 → Option (Int32 × Mem)) : OUTL B n z H D c m (f_X6_readList F c 3) (f_X11_text_b21_it F K 50 m (1 : Int32)) K := by
  have z8 : z ≤ 801 := hz.2.2.1
  have n8 : n ≤ 800 := hz.1
  obtain ⟨⟨hT, h88, h89, h32⟩, hM, h33, hb, hO⟩ := id h
  have hCs := hT.1
  have hMs := hM.1.1.1
  have b0 : bz (0 : Int32) := Or.inl rfl
  have b1 : bz (1 : Int32) := Or.inr rfl
  have eI := e_isW F hM.1 (q := 0) (by decide) (w := 1) rfl
  have eW := e_wrongM F hMs hM.2
  by_cases k0 : tK B n i = 0
  · rw [bi_t k0] at eI
    obtain ⟨i1, p1, -, -⟩ := hz.nxt hT.2.2.2.1 (show ¬ tK B n i = 22 by omega)
    have eT : f_X6_take F c 3 (some 1000000) = some (1, sI c 4 4 (nI (i + 1))) := e_takeY F z8 hT (q := 0) (by decide) k0 i1
    have hT1 := (e_passT F z8 hT i1).2
    obtain ⟨c1, hc1⟩ : ∃ c1, sI c 4 4 (nI (i + 1)) = c1 := ⟨_, rfl⟩
    have f1 : frB c c1 := by rw [← hc1]; exact frB.sI (by omega)
    have oc1 : ∀ x, x ≠ 4 → mI c1 x = mI c x := fun x hx => by rw [← hc1, mI_sI_o hx]
    rw [hc1] at eT hT1
    have hCs1 := hT1.1
    have cl : ∀ r c', f_X6_take F c1 3 (some 1000012) = some (r, c') → f_X6_readList F c 3 = br (r = 0) (some ((0 : Int32), c')) (ck (mK c' 3 = 7) (de (mR c' 3 1) (fun x12 => ck (mK c' x12 = 1) (bd (f_X0_addList F c' x12) (fun _ σ16 => f_X6_readList_b31 F 3 F σ16 (0 : Int32)))))) := by
      intro r c' e
      simp only [f_X6_readList, hCs, hCs1, eT, e, nx_eq, ck_true, br_true, br_false, bd_eq, i10]
    obtain ⟨X, hX⟩ : ∃ X, X = H + D := ⟨_, rfl⟩
    have hX12 : X < 12 := by omega
    have hX1 : H ≤ X := by omega
    have hX2 : X < H + 6 := by omega
    have vX := vp_nI hX12 (show 12 < 2147483648 by decide)
    have nX := nI_cl (show X < 2147483648 by omega)
    have eX : ((6 : Int32) - ((6 : Int32) * nI nw)) + nI D = nI X := by rw [x_six hnw, hX, hH]
    have g6 : ¬ nI D = (6 : Int32) := fun e => absurd ((nI_eq (b := 6) (by omega) (by decide)).mp e) (by omega)
    have fa := am_fr m X
    obtain ⟨m1, hm1⟩ : ∃ m1, anM m X = m1 := ⟨_, rfl⟩
    have hM1 : RI B n m1 i := by rw [← hm1]; exact hM.cg fa (fun j _ _ => by rw [am_o m (by omega)])
    have hMs1 := hM1.1.1.1
    have rf : f_X11_text_b21_it F K 50 m (1 : Int32) = bd (f_X11_take F m1 50) (fun r35 σ36 => br (r35 = 0) (some ((0 : Int32), σ36)) (ck (mK σ36 50 = 11) (bd (f_X11_need F σ36 50 (3 : Int32) (123 : Int32)) (fun r40 σ41 => br (r40 = 0) (some ((0 : Int32), σ41)) (f_X11_text_b126 F K 50 F σ41 (nI X)))))) := by
      rw [← hm1]
      unfold anM
      simp only [f_X11_text_b21_it, hMs, eI, h31, h33, g6, eX, vX, nX, nx_eq, ck_true, br_true, br_false, bd_eq, de_eq, mN_sI_, mK_sI_, mL_sI_, mI_sI_ap, mJ_sI_, mR_sI_, mN_sJ_, mK_sJ_, mL_sJ_, mI_sJ_, mJ_sJ_ap, mR_sJ_, mN_sR_, mK_sR_, mL_sR_, mI_sR_, mJ_sR_, mR_sR_ap, Nat.reduceEqDiff, Nat.reduceAdd, ↓reduceIte, and_true, true_and, and_false, false_and, or_true, true_or, or_false, false_or, not_true_eq_false, not_false_eq_true, i10, i01, ii01, ii02, ii03, ii04, ii05, ii12, ii13, ii14, ii15, ii20, ii21, ii23, ii24, ii25, ii30, ii31, ii32, ii34, ii35, ii40, ii41, ii42, ii43, ii45, ii50, ii51, ii52, ii53, ii54, bi_z, Option.some.injEq, reduceCtorEq, Nat.reduceLeDiff]
    rw [hm1] at fa
    obtain ⟨t1, t2⟩ := hM1.take F hF X
    by_cases d1 : tK B n (i + 1) = 21
    · obtain ⟨m2, a1, a2, a3, a4, a5⟩ := t2 d1
      have eO : f_X6_take F c1 3 (some 1000012) = some (0, sI c1 3 2 1) := e_takeN F z8 hT1 (q := 12) (by decide) (by omega)
      rw [cl _ _ eO, br_t1 rfl, rf, a1, bd_eq, br_t1 rfl]
      exact Or.inr (Or.inl ⟨_, m2, rfl, rfl, STRT.bad (c' := c1) ⟨f1, (fa.tr a2).t hX1 hX2, i + 1, hT1, d1, a4, a5⟩⟩)
    · obtain ⟨m2, a1, hM2, a3, a4, a5⟩ := t1 d1
      have hK2 : mK m2 50 = 11 := hM2.1.1.1.1
      rw [rf, a1, bd_eq, br_f1 (by decide), ck_t hK2]
      by_cases k12 : tK B n (i + 1) = 12
      · obtain ⟨i2, p2, -, -⟩ := hz.nxt i1 (show ¬ tK B n (i + 1) = 22 by omega)
        have eO : f_X6_take F c1 3 (some 1000012) = some (1, sI c1 4 4 (nI (i + 1 + 1))) := e_takeY F z8 hT1 (q := 12) (by decide) k12 i2
        have hT2 := (e_passT F z8 hT1 i2).2
        obtain ⟨c2, hc2⟩ : ∃ c2, sI c1 4 4 (nI (i + 1 + 1)) = c2 := ⟨_, rfl⟩
        have f2 : frB c c2 := by rw [← hc2]; exact f1.tr (frB.sI (by omega))
        have oc2 : ∀ x, x ≠ 4 → mI c2 x = mI c x := fun x hx => by rw [← hc2, mI_sI_o hx, oc1 x hx]
        rw [hc2] at eO hT2
        have hCs2 := hT2.1
        have eA := e_addList F hCs2 hD (by rw [oc2 8 (by decide)]; exact h89) (by rw [oc2 8 (by decide)]; exact h88)
        have f3 : frB c2 (anC c2 D sc) := an_fr c2 D sc
        have hT3 : CT B n z (anC c2 D sc) (i + 1 + 1) := hT2.cg f3 (by rw [an_o c2 (by omega)])
        have cl2 : f_X6_readList F c 3 = f_X6_readList_b31 F 3 F (anC c2 D sc) (nI 0) := by
          rw [cl _ _ eO, br_f1 (by decide)]
          simp only [hCs2, eA, nx_eq, ck_true, bd_eq, de_eq]
          rfl
        obtain ⟨t3, t4⟩ := hM2.take F hF X
        rw [cl2]
        by_cases d2 : tK B n (i + 1 + 1) = 21
        · obtain ⟨m3, y1, y2, y3, y4, y5⟩ := t4 d2
          rw [e_needY F hM2 (q := 12) (by decide) (by decide) k12 (by decide) y1 b0, bd_eq, br_t1 rfl]
          obtain ⟨G, hG⟩ : ∃ x, F = x + 1 := ⟨F - 1, by omega⟩
          have e := st_list F z8 hT3 d2 (k := 0) (by decide) G
          rw [← hG] at e
          rw [e]
          exact Or.inr (Or.inl ⟨_, m3, rfl, rfl, STRT.bad (c' := anC c2 D sc) ⟨f2.tr f3, ((fa.tr a3).tr y2).t hX1 hX2, i + 1 + 1, hT3, d2, y4, y5⟩⟩)
        · obtain ⟨m3, y1, hM3, y3, y4, y5⟩ := t3 d2
          rw [e_needY F hM2 (q := 12) (by decide) (by decide) k12 (by decide) y1 b1, bd_eq, br_f1 (by decide)]
          have fw : frW X m m3 := (fa.tr a3).tr y3
          obtain ⟨q1, q2, q3, q4, q5, q6, q7⟩ := an_e c2 D sc
          obtain ⟨s1, s2, s3, s4⟩ := am_e m X
          rw [hm1] at s1 s2 s3 s4
          have om : ∀ x, x ≠ 50 → mI m3 x = mI m1 x := fun x hx => (y4 x hx).trans (a4 x hx)
          have hL : LR (anC c2 D sc) m3 D X sc sc := by
            unfold LR
            rw [om 77 (by decide), om 78 (by decide), om 79 (by decide), om 81 (by decide), s1, s2, s3, s4, q1, q2, q3]
            exact ⟨⟨rfl, Or.inl rfl⟩, ⟨rfl, Or.inl rfl⟩, Or.inl ⟨rfl, rfl⟩, Nat.le_refl _, by have := tP_n B n i; omega, q4, q5, Or.inl ⟨rfl, rfl⟩⟩
          have hI : IS B n z D X (anC c2 D sc) m3 (i + 1 + 1) sc sc := ⟨⟨hT3, by rw [q7, oc2 8 (by decide)]; exact h88, q6, q5, by rw [an_o c2 (by omega), oc2 3 (by decide)]; exact h32⟩, hM3, hL, by omega⟩
          have hc : cI m3 X = 0 := by
            unfold cI
            rw [om 77 (by decide), om 78 (by decide), om 79 (by decide), om 81 (by decide), s1, s2, s3, s4, pr_0 rfl]
          have hO3 : ∀ l, l < D → ∃ u z', z' ≤ sc ∧ LR (anC c2 D sc) m3 l (H + l) u z' := fun l hl => by
            obtain ⟨u, z', w1, w2⟩ := hO l hl
            refine ⟨u, z', w1, w2.cg (fun x h1 h2 => ?_) (fun j hj => ?_) (fun t ht => ⟨?_, ?_⟩) (fun x hx => ?_) (fun j hj => ?_) (fun t ht => ⟨?_, ?_⟩)⟩
            · rw [an_l c2 h1 (by omega), oc2 x (by omega)]
            · rw [an_o c2 (by omega), oc2 14 (by decide)]
            · rw [an_o c2 (by omega), oc2 15 (by decide)]
            · rw [an_o c2 (by omega), oc2 16 (by decide)]
            · exact fw.2.2.2.2.2.1 x _ hx (by omega)
            · exact fw.2.2.2.2.2.2.1 _ (by omega)
            · exact fw.2.2.2.2.2.2.2.1 82 _ (Or.inl rfl) (by omega)
            · exact fw.2.2.2.2.2.2.2.1 83 _ (Or.inr rfl) (by omega)
          have out := lp_list F hF hz hD hX hX12 K (by rw [fw.2.2.2.2.2.2.2.2 33 (by omega)]; exact h33) hO3 4 0 (i + 1 + 1) (anC c2 D sc) m3 sc F F rfl (by omega) (by omega) hI hc (FI.rf D _ sc) (Nat.le_refl _) (frW.rf X m3)
          exact out.pre (f2.tr f3) (fw.t hX1 hX2)
      · have eO : f_X6_take F c1 3 (some 1000012) = some (0, sI c1 3 2 1) := e_takeN F z8 hT1 (q := 12) (by decide) k12
        rw [cl _ _ eO, br_t1 rfl, e_needN F hM2 (q := 12) (by decide) (by decide) k12 (by decide), bd_eq, br_t1 rfl]
        exact Or.inr (Or.inl ⟨_, _, rfl, rfl, (bad_wrI (X := X) (k := 1) hT1 hM2 f1 (fa.tr a3) (by decide) (by decide)).t hX1 hX2⟩)
  · rw [bi_f k0] at eI
    have eT : f_X6_take F c 3 (some 1000000) = some (0, sI c 3 2 1) := e_takeN F z8 hT (q := 0) (by decide) k0
    refine Or.inr (Or.inl ⟨sI c 3 2 1, _, ?_, ?_, (bad_wrI (X := H + D) (k := 1) hT hM (frB.rf c) (frW.rf _ m) (by decide) (by decide)).t (by omega) (by omega)⟩)
    · simp only [f_X6_readList, hCs, eT, nx_eq, ck_true, br_true, bd_eq]
    · simp only [f_X11_text_b21_it, hMs, eI, eW, b0, nx_eq, ck_true, br_true, br_false, bd_eq, i10]
      rfl
/-- at a strange token no text goes on -/
theorem st_book (F : Nat) {B : Nat → Nat} {n z j : Nat} {c : Mem} (hz : z ≤ 801) (h : CT B n z c j) (hk : tK B n j = 21) {D : Nat} (hD : D ≤ 6) (M : Nat) : f_X6_readBook_b23 F 3 (M + 1) c (nI D) = some (0, sI c 3 2 1) := by
  have hCs := h.1
  have b0 : bz (0 : Int32) := Or.inl rfl
  have eT : f_X6_take F c 3 (some 1000000) = some (0, sI c 3 2 1) := e_takeN F hz h (q := 0) (by decide) (by omega)
  have eS := e_sees F hz h (q := 0) (by decide)
  rw [bi_f (by omega)] at eS
  simp only [Nat.reduceAdd] at eS
  show f_X6_readBook_b23_it F (f_X6_readBook_b23 F 3 M) 3 c (nI D) = _
  by_cases e : D = 6
  · have g : (6 : Int32) ≤ nI D := by subst e; decide
    simp only [f_X6_readBook_b23_it, f_X6_readBook_b78, hCs, g, eS, e_refuse F hCs, b0, nx_eq, ck_true, br_true, br_false, bd_eq, de_eq, i01]
  · have g : ¬ (6 : Int32) ≤ nI D := nI_ge (b := 6) (by omega) (by decide)
    have eL : f_X6_readList F c 3 = some (0, sI c 3 2 1) := by simp only [f_X6_readList, hCs, eT, nx_eq, ck_true, br_true, bd_eq]
    simp only [f_X6_readBook_b23_it, hCs, g, eL, nx_eq, ck_true, br_true, br_false, bd_eq]
def OUTB (B : Nat → Nat) (n z H : Nat) (c m : Mem) (cl rf : Option (Int32 × Mem)) : Prop :=
  (∃ c' m' j D sc, cl = some (1, c') ∧ rf = some (1, m') ∧ frB c c' ∧ frTx H m m' ∧ 1 ≤ D ∧ D ≤ 6 ∧ TS B n z H D c' m' j sc) ∨ ∃ c' m', cl = some (0, c') ∧ rf = some (0, m') ∧ BADT B n z H c m c' m'
theorem lp_book (F : Nat) (hF : 1000 ≤ F) {B : Nat → Nat} {n z nw H : Nat} {c0 m0 : Mem} (hz : TZ B n z) (hnw : nw ≤ 1) (hH : H = 6 - 6 * nw) (h31 : mI m0 50 31 = nI nw) : ∀ d D i c m sc M M', d + D = 6 → d < M → d + 1 < M' → frB c0 c → frTx H m0 m → TS B n z H D c m i sc →
    OUTB B n z H c0 m0 (f_X6_readBook_b23 F 3 M c (nI D)) (f_X11_text_b21 F 50 M' m (1 : Int32)) := by
  have z8 : z ≤ 801 := hz.2.2.1
  have b0 : bz (0 : Int32) := Or.inl rfl
  intro d
  induction d with
  | zero =>
    intro D i c m sc M M' hd hM1 hM2 fb fx h
    obtain ⟨M, rfl⟩ : ∃ x, M = x + 1 := ⟨M - 1, by omega⟩
    obtain ⟨M', rfl⟩ : ∃ x, M' = x + 1 := ⟨M' - 1, by omega⟩
    obtain ⟨⟨hT, h88, h89, h32⟩, hM, h33, hb, hO⟩ := h
    have hD : D = 6 := by omega
    subst hD
    have hCs := hT.1
    have hMs := hM.1.1.1
    have g : (6 : Int32) ≤ nI 6 := by decide
    have eS := e_sees F z8 hT (q := 0) (by decide)
    simp only [Nat.reduceAdd] at eS
    have eI := e_isW F hM.1 (q := 0) (by decide) (w := 1) rfl
    have eW := e_wrongM F hMs hM.2
    have g6 : (nI 6 : Int32) = 6 := rfl
    rw [g6] at h33
    by_cases k0 : tK B n i = 0
    · rw [bi_t k0] at eS eI
      refine Or.inr ⟨sI c 3 2 2, _, ?_, ?_, BADT.pre (BADS.t (X := H) (bad_wrI (k := 2) hT hM (frB.rf c) (frW.rf _ m) (by decide) (by decide)) (by omega) (by omega)) fb fx⟩
      · show f_X6_readBook_b23_it F (f_X6_readBook_b23 F 3 M) 3 c (nI 6) = _
        simp only [f_X6_readBook_b23_it, f_X6_readBook_b78, hCs, g, eS, e_refuse F hCs, b0, nx_eq, ck_true, br_true, br_false, bd_eq, de_eq, i10]
      · show f_X11_text_b21_it F (f_X11_text_b21 F 50 M') 50 m (1 : Int32) = _
        simp only [f_X11_text_b21_it, hMs, eI, h33, eW, b0, nx_eq, ck_true, br_true, br_false, bd_eq, i10]
        rfl
    · rw [bi_f k0] at eS eI
      refine Or.inr ⟨sI c 3 2 1, _, ?_, ?_, BADT.pre (BADS.t (X := H) (bad_wrI (k := 1) hT hM (frB.rf c) (frW.rf _ m) (by decide) (by decide)) (by omega) (by omega)) fb fx⟩
      · show f_X6_readBook_b23_it F (f_X6_readBook_b23 F 3 M) 3 c (nI 6) = _
        simp only [f_X6_readBook_b23_it, f_X6_readBook_b78, hCs, g, eS, e_refuse F hCs, b0, nx_eq, ck_true, br_true, br_false, bd_eq, de_eq, i01]
      · show f_X11_text_b21_it F (f_X11_text_b21 F 50 M') 50 m (1 : Int32) = _
        simp only [f_X11_text_b21_it, hMs, eI, eW, b0, nx_eq, ck_true, br_true, br_false, bd_eq, i10]
        rfl
  | succ d ih =>
    intro D i c m sc M M' hd hM1 hM2 fb fx h
    obtain ⟨M, rfl⟩ : ∃ x, M = x + 1 := ⟨M - 1, by omega⟩
    obtain ⟨M', rfl⟩ : ∃ x, M' = x + 2 := ⟨M' - 2, by omega⟩
    have hCs := h.1.1.1
    have g : ¬ (6 : Int32) ≤ nI D := nI_ge (b := 6) (by omega) (by decide)
    have m31 : mI m 50 31 = nI nw := (fx.2.2.2.2.2.2.2.2 31 (by omega)).trans h31
    have e1 : nI D + (1 : Int32) = nI (D + 1) := nI_1 D
    have rf : f_X11_text_b21 F 50 (M' + 2) m (1 : Int32) = f_X11_text_b21_it F (f_X11_text_b21 F 50 (M' + 1)) 50 m (1 : Int32) := rfl
    have cl : f_X6_readBook_b23 F 3 (M + 1) c (nI D) = f_X6_readBook_b23_it F (f_X6_readBook_b23 F 3 M) 3 c (nI D) := rfl
    rw [cl, rf]
    rcases L_list F hF hz (by omega) hnw hH m31 h (f_X11_text_b21 F 50 (M' + 1)) with ⟨c', m', j, y1, y2, y3, y4, sc', y5⟩ | ⟨c', m', y1, y2, y3⟩ | ⟨c', m', y1, y2, y3⟩
    · have hCs' := y5.1.1.1
      have eS := e_sees F z8 y5.1.1 (q := 22) (by decide)
      simp only [Nat.reduceAdd] at eS
      rw [y2]
      by_cases k : tK B n j = 22
      · rw [bi_t k] at eS
        rw [if_pos k]
        refine Or.inl ⟨c', m', j, D + 1, sc', ?_, ?_, fb.tr y3, fx.tr y4, by omega, by omega, y5⟩
        · simp only [f_X6_readBook_b23_it, hCs, hCs', g, y1, eS, nx_eq, ck_true, br_true, br_false, bd_eq, de_eq, i10]
        · show f_X11_text_b21_it F (f_X11_text_b21 F 50 M') 50 m' (0 : Int32) = _
          unfold f_X11_text_b21_it
          exact br_t1 rfl _ _
      · rw [bi_f k] at eS
        rw [if_neg k]
        have cl2 : f_X6_readBook_b23_it F (f_X6_readBook_b23 F 3 M) 3 c (nI D) = f_X6_readBook_b23 F 3 M c' (nI (D + 1)) := by
          simp only [f_X6_readBook_b23_it, hCs, hCs', g, y1, eS, e1, nx_eq, ck_true, br_true, br_false, bd_eq, de_eq, i01, i10]
        rw [cl2]
        exact ih (D + 1) j c' m' sc' M (M' + 1) (by omega) (by omega) (by omega) (fb.tr y3) (fx.tr y4) y5
    · refine Or.inr ⟨c', m', ?_, y2, y3.pre fb fx⟩
      simp only [f_X6_readBook_b23_it, hCs, g, y1, nx_eq, ck_true, br_true, br_false, bd_eq]
    · obtain ⟨j, w1, w2, w3⟩ := y3.2.2
      have hCs' := w1.1
      have eS := e_sees F z8 w1 (q := 22) (by decide)
      rw [bi_f (by omega)] at eS
      simp only [Nat.reduceAdd] at eS
      obtain ⟨M, rfl⟩ : ∃ x, M = x + 1 := ⟨M - 1, by omega⟩
      refine Or.inr ⟨_, m', ?_, y2, y3.bad.pre fb fx⟩
      have e2 := st_book F z8 w1 w2 (D := D + 1) (by omega) M
      simp only [f_X6_readBook_b23_it, hCs, hCs', g, y1, eS, e1, e2, nx_eq, ck_true, br_true, br_false, bd_eq, de_eq, i01, i10]
