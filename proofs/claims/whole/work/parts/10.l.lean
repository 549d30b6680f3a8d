/-! facts, with a not or without -/
theorem L_fact (F : Nat) (hF : 1000 ≤ F) {B : Nat → Nat} {n z D X u0 q bl h r i sc im M : Nat} {c m : Mem} (hz : TZ B n z) (hD : D < 6) (hX : X < 12) (hr : r ≤ 6) {RA : Mem → Nat → Int32 → Option (Int32 × Mem)} (hRA : r < 6 → HRA F B n z D X u0 r RA) (hE : ENT B n z D X u0 q bl h c m i sc im) (hh : h ≤ 2 * r + 2) (hM0 : z + 2 ≤ M + i) :
    OUT3 F B n z D X u0 q bl 8 h c m i sc (f_X6_readFact F RA c 3 (nI r)) (f_X11_condition_b19 F 50 M m (nI X) (nI r) (1 : Int32) (1 : Int32)) (KB F B n z X r (fun _ => True)) := by
  obtain ⟨hC, hM, hsc, hSR, hpl, hbl, hq⟩ := id hE
  have z8 : z ≤ 801 := hz.2.2.1
  have n8 : n ≤ 800 := hz.1
  have hi := hC.1.2.2.2.1
  obtain ⟨M, rfl⟩ : ∃ x, M = x + 1 := ⟨M - 1, by omega⟩
  have hCs := hC.1.1
  have hMs := hM.1.1.1
  have b0 : bz (0 : Int32) := Or.inl rfl
  have b1 : bz (1 : Int32) := Or.inr rfl
  have n10 : ¬ (1 : Int32) = 0 := by decide
  have eI := e_isW F hM.1 (q := 7) (by decide) (w := 8) rfl
  have e7 := e_sees F z8 hC.1 (q := 7) (by decide)
  have e7' : f_X9_sees F c 4 (some 1000007) = some (bi (tK B n i = 7), c) := e7
  have inn : ∀ (c : Mem) (i : Nat) (v2 : Int32) (x : Int32) (c' : Mem), CT B n z c i → bz x → (if tK B n i = 14 then f_X6_readRound F RA c 3 (nI r) else f_X6_readComparison F c 3) = some (x, c') → f_X6_readFact_b22 F RA 3 c (nI r) v2 = f_X6_readFact_b47 F RA 3 c' v2 x := by
    intro c i v2 x c' hT hx e
    have hCs := hT.1
    have e14 := e_sees F z8 hT (q := 14) (by decide)
    have e14' : f_X9_sees F c 4 (some 1000014) = some (bi (tK B n i = 14), c) := e14
    by_cases k : tK B n i = 14
    · rw [if_pos k] at e
      rw [bi_t k] at e14'
      simp only [f_X6_readFact_b22, hCs, e14', e, nx_eq, ck_true, br_true, br_false, bd_eq, de_eq, mN_sI_, mK_sI_, mL_sI_, mI_sI_ap, mJ_sI_, mR_sI_, mN_sJ_, mK_sJ_, mL_sJ_, mI_sJ_, mJ_sJ_ap, mR_sJ_, mN_sR_, mK_sR_, mL_sR_, mI_sR_, mJ_sR_, mR_sR_ap, Nat.reduceEqDiff, Nat.reduceAdd, ↓reduceIte, and_true, true_and, and_false, false_and, or_true, true_or, or_false, false_or, not_true_eq_false, not_false_eq_true, i10, i01, ii01, ii02, ii03, ii04, ii05, ii12, ii13, ii14, ii15, ii20, ii21, ii23, ii24, ii25, ii30, ii31, ii32, ii34, ii35, ii40, ii41, ii42, ii43, ii45, ii50, ii51, ii52, ii53, ii54, bi_z, Option.some.injEq, reduceCtorEq, Nat.reduceLeDiff]
    · rw [if_neg k] at e
      rw [bi_f k] at e14'
      simp only [f_X6_readFact_b22, hCs, e14', e, nx_eq, ck_true, br_true, br_false, bd_eq, de_eq, mN_sI_, mK_sI_, mL_sI_, mI_sI_ap, mJ_sI_, mR_sI_, mN_sJ_, mK_sJ_, mL_sJ_, mI_sJ_, mJ_sJ_ap, mR_sJ_, mN_sR_, mK_sR_, mL_sR_, mI_sR_, mJ_sR_, mR_sR_ap, Nat.reduceEqDiff, Nat.reduceAdd, ↓reduceIte, and_true, true_and, and_false, false_and, or_true, true_or, or_false, false_or, not_true_eq_false, not_false_eq_true, i10, i01, ii01, ii02, ii03, ii04, ii05, ii12, ii13, ii14, ii15, ii20, ii21, ii23, ii24, ii25, ii30, ii31, ii32, ii34, ii35, ii40, ii41, ii42, ii43, ii45, ii50, ii51, ii52, ii53, ii54, bi_z, Option.some.injEq, reduceCtorEq, Nat.reduceLeDiff]
  by_cases k7 : tK B n i = 7
  · rw [bi_t k7] at eI e7'
    obtain ⟨i1, p1, p2, p3⟩ := hz.nxt hi (show ¬ tK B n i = 22 by omega)
    have p3 := p3 (by omega)
    obtain ⟨eP, hT1⟩ := e_passT F z8 hC.1 i1
    have hC1 := hC.nx F z8 i1
    obtain ⟨c1, hc1⟩ : ∃ c1, sI c 4 4 (nI (i + 1)) = c1 := ⟨_, rfl⟩
    rw [hc1] at eP hT1 hC1
    have fc1 : FC D c c1 sc := by rw [← hc1]; exact FC.nx D c sc _
    have hC1s := hC1.1.1
    have cl1 : f_X6_readFact F RA c 3 (nI r) = f_X6_readFact_b22 F RA 3 c1 (nI r) (1 : Int32) := by
      simp only [f_X6_readFact, hCs, e7', eP, nx_eq, ck_true, br_true, br_false, bd_eq, de_eq, mN_sI_, mK_sI_, mL_sI_, mI_sI_ap, mJ_sI_, mR_sI_, mN_sJ_, mK_sJ_, mL_sJ_, mI_sJ_, mJ_sJ_ap, mR_sJ_, mN_sR_, mK_sR_, mL_sR_, mI_sR_, mJ_sR_, mR_sR_ap, Nat.reduceEqDiff, Nat.reduceAdd, ↓reduceIte, and_true, true_and, and_false, false_and, or_true, true_or, or_false, false_or, not_true_eq_false, not_false_eq_true, i10, i01, ii01, ii02, ii03, ii04, ii05, ii12, ii13, ii14, ii15, ii20, ii21, ii23, ii24, ii25, ii30, ii31, ii32, ii34, ii35, ii40, ii41, ii42, ii43, ii45, ii50, ii51, ii52, ii53, ii54, bi_z, Option.some.injEq, reduceCtorEq, Nat.reduceLeDiff]
    have v8 := vp_nI (show bl < 820 by omega) (show 820 < 2147483648 by decide)
    have n8' := nI_cl (show bl < 2147483648 by omega)
    obtain ⟨m1, hm1⟩ : ∃ m1, sI (sI m 84 bl 8) 50 49 (nI (bl + 1)) = m1 := ⟨_, rfl⟩
    have fx1 : frX X m m1 := by rw [← hm1]; exact frX.s84.tr (frX.s50 (by omega))
    have i50 : ∀ j, j ≠ 49 → mI m1 50 j = mI m 50 j := fun j hj => by rw [← hm1, mI_sI_j hj, mI_sI_o (by decide)]
    have i84 : mI m1 84 bl = nI 8 ∧ ∀ k, k ≠ bl → mI m1 84 k = mI m 84 k := by rw [← hm1]; exact ⟨by rw [mI_sI_o (by decide), mI_sI_e]; rfl, fun k hk => by rw [mI_sI_o (by decide), mI_sI_j hk]⟩
    have iO : ∀ x, x ≠ 50 → x ≠ 84 → mI m1 x = mI m x := fun x h1 h2 => by rw [← hm1, mI_sI_o h1, mI_sI_o h2]
    have hM1 : GM B n X m1 i im (bl + 1) := ⟨fx1.RT hM.1 (fun j _ _ => i50 j (by omega)), by rw [i50 41 (by decide)]; exact hM.2.1, by rw [← hm1, mI_sI_e], by rw [iO 81 (by decide) (by decide)]; exact hM.2.2.2⟩
    have h49 := hM.2.2.1
    have rf1 : ∀ x, f_X11_take F m1 50 = x → f_X11_condition_b19 F 50 (M + 1) m (nI X) (nI r) (1 : Int32) (1 : Int32) = bd x (fun r52 σ53 => br (r52 = 0) (some ((0 : Int32), σ53)) (f_X11_condition_b72 F (f_X11_condition_b19 F 50 M) 50 σ53 (nI X) (nI r) (1 : Int32) (1 : Int32))) := by
      intro x ex
      have hM1s := hM1.1.1.1
      have k50 : mK m1 50 = 11 := by simp only [hM1s]
      show f_X11_condition_b19_it F (f_X11_condition_b19 F 50 M) 50 m (nI X) (nI r) (1 : Int32) (1 : Int32) = _
      simp only [f_X11_condition_b19_it, hMs, eI, h49, v8, n8', nI_1, hm1, ex, nx_eq, ck_true, br_true, br_false, bd_eq, de_eq, mN_sI_, mK_sI_, mL_sI_, mI_sI_ap, mJ_sI_, mR_sI_, mN_sJ_, mK_sJ_, mL_sJ_, mI_sJ_, mJ_sJ_ap, mR_sJ_, mN_sR_, mK_sR_, mL_sR_, mI_sR_, mJ_sR_, mR_sR_ap, Nat.reduceEqDiff, Nat.reduceAdd, ↓reduceIte, and_true, true_and, and_false, false_and, or_true, true_or, or_false, false_or, not_true_eq_false, not_false_eq_true, i10, i01, ii01, ii02, ii03, ii04, ii05, ii12, ii13, ii14, ii15, ii20, ii21, ii23, ii24, ii25, ii30, ii31, ii32, ii34, ii35, ii40, ii41, ii42, ii43, ii45, ii50, ii51, ii52, ii53, ii54, bi_z, Option.some.injEq, reduceCtorEq, Nat.reduceLeDiff]
    obtain ⟨t1, t2⟩ := hM1.take F hF
    by_cases d1 : tK B n (i + 1) = 21
    · obtain ⟨m', a1, a2, a3, a4⟩ := t2 d1
      refine Or.inr (Or.inl ⟨sI c1 3 2 1, m', ?_, by rw [rf1 _ a1, bd_eq, br_t1 rfl], bad_dead hT1 fc1.1 (fx1.tr a2) a3 a4⟩)
      rw [cl1, inn c1 (i + 1) 1 0 _ hT1 b0 (by rw [if_neg (by omega)]; exact st_comp F z8 hT1 d1)]
      simp only [f_X6_readFact_b47, f_X6_readFact_b66, b0, nx_eq, ck_true, br_true, br_false, bd_eq, de_eq, mN_sI_, mK_sI_, mL_sI_, mI_sI_ap, mJ_sI_, mR_sI_, mN_sJ_, mK_sJ_, mL_sJ_, mI_sJ_, mJ_sJ_ap, mR_sJ_, mN_sR_, mK_sR_, mL_sR_, mI_sR_, mJ_sR_, mR_sR_ap, Nat.reduceEqDiff, Nat.reduceAdd, ↓reduceIte, and_true, true_and, and_false, false_and, or_true, true_or, or_false, false_or, not_true_eq_false, not_false_eq_true, i10, i01, ii01, ii02, ii03, ii04, ii05, ii12, ii13, ii14, ii15, ii20, ii21, ii23, ii24, ii25, ii30, ii31, ii32, ii34, ii35, ii40, ii41, ii42, ii43, ii45, ii50, ii51, ii52, ii53, ii54, bi_z, Option.some.injEq, reduceCtorEq, Nat.reduceLeDiff]
    · obtain ⟨m2, a1, hM2, fx2, o2⟩ := t1 d1
      have rf2 := rf1 _ a1
      rw [bd_eq, br_f1 n10] at rf2
      have fx2' := fx1.tr fx2
      have c1p : ∀ x, x ≠ 4 → mI c1 x = mI c x := fun x hx => by rw [← hc1, mI_sI_o hx]
      have hE2 : ENT B n z D X u0 (q + 1) (bl + 1) h c1 m2 (i + 1) sc im := ⟨hC1, hM2, hsc, ⟨fun k hk => by rw [c1p 15 (by decide), c1p 16 (by decide), o2 82 (by decide), o2 83 (by decide), iO 82 (by decide) (by decide), iO 83 (by decide) (by decide)]; exact hSR.1 k hk, fun j hj => absurd hj (by omega)⟩, by rw [c1p 15 (by decide)]; exact hpl, by omega, by omega⟩
      rcases L_in F hF hz hD hX hr hRA hE2 hh (M := M) (by omega) with ⟨c2, m3, j, y1, ⟨M', y2, y3, y4⟩, w1, w2, w3, w4, sc', im', pn, w5, w6, w7, w8, w9, w10, w11, w12⟩ | ⟨c2, m3, y1, y2, y3⟩ | ⟨c2, m3, y1, y2, w1, w2, j, sc', w3, w4, w5, w6, w7, w8⟩
      · obtain rfl := w9.z9
        have hpj : tP B n j ≤ n := (skW_ge (B := B) (tS_le B n j)).2
        have s4 : sc' < 400 := by omega
        have hC2s := w6.1.1
        have eA := e_addStep F hC2s w6.2.2.1 w6.2.1 hD s4 12 0
        have hC3 := w6.ad 12 0
        have fc3' := FC.ad D c2 sc' 12 0
        obtain ⟨⟨q1, q2⟩, q3, q4⟩ := adS_15 c2 D sc' 12 0
        have cl2 : f_X6_readFact F RA c 3 (nI r) = some (1, adS c2 D sc' 12 0) := by
          rw [cl1, inn c1 (i + 1) 1 1 _ hT1 b1 y1]
          simp only [f_X6_readFact_b47, f_X6_readFact_b66, hC2s, eA, b1, nx_eq, ck_true, br_true, br_false, bd_eq, de_eq, mN_sI_, mK_sI_, mL_sI_, mI_sI_ap, mJ_sI_, mR_sI_, mN_sJ_, mK_sJ_, mL_sJ_, mI_sJ_, mJ_sJ_ap, mR_sJ_, mN_sR_, mK_sR_, mL_sR_, mI_sR_, mJ_sR_, mR_sR_ap, Nat.reduceEqDiff, Nat.reduceAdd, ↓reduceIte, and_true, true_and, and_false, false_and, or_true, true_or, or_false, false_or, not_true_eq_false, not_false_eq_true, i10, i01, ii01, ii02, ii03, ii04, ii05, ii12, ii13, ii14, ii15, ii20, ii21, ii23, ii24, ii25, ii30, ii31, ii32, ii34, ii35, ii40, ii41, ii42, ii43, ii45, ii50, ii51, ii52, ii53, ii54, bi_z, Option.some.injEq, reduceCtorEq, Nat.reduceLeDiff]
        refine Or.inl ⟨adS c2 D sc' 12 0, m3, j, cl2, ⟨M', y2, by rw [rf2]; exact y3, trivial⟩, (fc1.tr w1 (Nat.le_refl _)).tr fc3' w5, fx2'.tr w2, fun k hk => ?_, by omega, sc' + 1, im', 1, by omega, hC3, w7, by omega, ⟨fun k hk => ?_, fun t ht => ?_⟩, ?_, w11, by omega⟩
        · rw [w3 k (by omega), o2 84 (by decide), i84.2 k (by omega)]
        · rw [q2 _ (by omega), q4 _ (by omega)]; exact w9.1 k hk
        · obtain rfl : t = 0 := by omega
          refine ⟨8, by decide, by decide, by decide, ?_, ?_, ?_⟩
          · rw [Nat.add_zero, w3 bl (by omega), o2 84 (by decide)]; exact i84.1
          · rw [show u0 + im' + (1 - 1 - 0) = sc' by omega, q1]; rfl
          · rw [show u0 + im' + (1 - 1 - 0) = sc' by omega, q3]
        · have e2 : pileH (mI (adS c2 D sc' 12 0) 15) u0 (sc' - u0) = some (h + 1) := by
            rw [← w10]
            exact pileH_ext _ (fun k hk => q2 _ (by omega))
          rw [show sc' + 1 - u0 = (sc' - u0) + 1 by omega, pileH_st e2, show u0 + (sc' - u0) = sc' by omega, q1, if_pos rfl, if_pos (by omega)]
      · refine Or.inr (Or.inl ⟨c2, m3, ?_, by rw [rf2]; exact y2, y3.pre fc1.1 fx2'⟩)
        rw [cl1, inn c1 (i + 1) 1 0 _ hT1 b0 y1]
        simp only [f_X6_readFact_b47, f_X6_readFact_b66, b0, nx_eq, ck_true, br_true, br_false, bd_eq, de_eq, mN_sI_, mK_sI_, mL_sI_, mI_sI_ap, mJ_sI_, mR_sI_, mN_sJ_, mK_sJ_, mL_sJ_, mI_sJ_, mJ_sJ_ap, mR_sJ_, mN_sR_, mK_sR_, mL_sR_, mI_sR_, mJ_sR_, mR_sR_ap, Nat.reduceEqDiff, Nat.reduceAdd, ↓reduceIte, and_true, true_and, and_false, false_and, or_true, true_or, or_false, false_or, not_true_eq_false, not_false_eq_true, i10, i01, ii01, ii02, ii03, ii04, ii05, ii12, ii13, ii14, ii15, ii20, ii21, ii23, ii24, ii25, ii30, ii31, ii32, ii34, ii35, ii40, ii41, ii42, ii43, ii45, ii50, ii51, ii52, ii53, ii54, bi_z, Option.some.injEq, reduceCtorEq, Nat.reduceLeDiff]
      · have hpj : tP B n j ≤ n := (skW_ge (B := B) (tS_le B n j)).2
        have s4 : sc' < 400 := by omega
        have hC2s := w4.1.1
        have eA := e_addStep F hC2s w4.2.2.1 w4.2.1 hD s4 12 0
        refine Or.inr (Or.inr ⟨adS c2 D sc' 12 0, m3, ?_, by rw [rf2]; exact y2, (fc1.tr w1 (Nat.le_refl _)).tr (FC.ad D c2 sc' 12 0) w3, fx2'.tr w2, j, sc' + 1, by omega, w4.ad 12 0, w5, by omega, w7, w8⟩)
        rw [cl1, inn c1 (i + 1) 1 1 _ hT1 b1 y1]
        simp only [f_X6_readFact_b47, f_X6_readFact_b66, hC2s, eA, b1, nx_eq, ck_true, br_true, br_false, bd_eq, de_eq, mN_sI_, mK_sI_, mL_sI_, mI_sI_ap, mJ_sI_, mR_sI_, mN_sJ_, mK_sJ_, mL_sJ_, mI_sJ_, mJ_sJ_ap, mR_sJ_, mN_sR_, mK_sR_, mL_sR_, mI_sR_, mJ_sR_, mR_sR_ap, Nat.reduceEqDiff, Nat.reduceAdd, ↓reduceIte, and_true, true_and, and_false, false_and, or_true, true_or, or_false, false_or, not_true_eq_false, not_false_eq_true, i10, i01, ii01, ii02, ii03, ii04, ii05, ii12, ii13, ii14, ii15, ii20, ii21, ii23, ii24, ii25, ii30, ii31, ii32, ii34, ii35, ii40, ii41, ii42, ii43, ii45, ii50, ii51, ii52, ii53, ii54, bi_z, Option.some.injEq, reduceCtorEq, Nat.reduceLeDiff]
  · rw [bi_f k7] at eI e7'
    have cl1 : f_X6_readFact F RA c 3 (nI r) = f_X6_readFact_b22 F RA 3 c (nI r) (0 : Int32) := by
      simp only [f_X6_readFact, hCs, e7', nx_eq, ck_true, br_true, br_false, bd_eq, de_eq, mN_sI_, mK_sI_, mL_sI_, mI_sI_ap, mJ_sI_, mR_sI_, mN_sJ_, mK_sJ_, mL_sJ_, mI_sJ_, mJ_sJ_ap, mR_sJ_, mN_sR_, mK_sR_, mL_sR_, mI_sR_, mJ_sR_, mR_sR_ap, Nat.reduceEqDiff, Nat.reduceAdd, ↓reduceIte, and_true, true_and, and_false, false_and, or_true, true_or, or_false, false_or, not_true_eq_false, not_false_eq_true, i10, i01, ii01, ii02, ii03, ii04, ii05, ii12, ii13, ii14, ii15, ii20, ii21, ii23, ii24, ii25, ii30, ii31, ii32, ii34, ii35, ii40, ii41, ii42, ii43, ii45, ii50, ii51, ii52, ii53, ii54, bi_z, Option.some.injEq, reduceCtorEq, Nat.reduceLeDiff]
    have rf1 : f_X11_condition_b19 F 50 (M + 1) m (nI X) (nI r) (1 : Int32) (1 : Int32) = f_X11_condition_b72 F (f_X11_condition_b19 F 50 M) 50 m (nI X) (nI r) (1 : Int32) (1 : Int32) := by
      show f_X11_condition_b19_it F (f_X11_condition_b19 F 50 M) 50 m (nI X) (nI r) (1 : Int32) (1 : Int32) = _
      simp only [f_X11_condition_b19_it, hMs, eI, nx_eq, ck_true, br_true, br_false, bd_eq, de_eq, mN_sI_, mK_sI_, mL_sI_, mI_sI_ap, mJ_sI_, mR_sI_, mN_sJ_, mK_sJ_, mL_sJ_, mI_sJ_, mJ_sJ_ap, mR_sJ_, mN_sR_, mK_sR_, mL_sR_, mI_sR_, mJ_sR_, mR_sR_ap, Nat.reduceEqDiff, Nat.reduceAdd, ↓reduceIte, and_true, true_and, and_false, false_and, or_true, true_or, or_false, false_or, not_true_eq_false, not_false_eq_true, i10, i01, ii01, ii02, ii03, ii04, ii05, ii12, ii13, ii14, ii15, ii20, ii21, ii23, ii24, ii25, ii30, ii31, ii32, ii34, ii35, ii40, ii41, ii42, ii43, ii45, ii50, ii51, ii52, ii53, ii54, bi_z, Option.some.injEq, reduceCtorEq, Nat.reduceLeDiff]
    have fin : ∀ x c', bz x → (if tK B n i = 14 then f_X6_readRound F RA c 3 (nI r) else f_X6_readComparison F c 3) = some (x, c') → f_X6_readFact F RA c 3 (nI r) = some (x, c') := by
      intro x c' hx e
      rw [cl1, inn c i 0 x c' hC.1 hx e]
      rcases hx with rfl | rfl
      · simp only [f_X6_readFact_b47, f_X6_readFact_b66, b0, nx_eq, ck_true, br_true, br_false, bd_eq, de_eq, mN_sI_, mK_sI_, mL_sI_, mI_sI_ap, mJ_sI_, mR_sI_, mN_sJ_, mK_sJ_, mL_sJ_, mI_sJ_, mJ_sJ_ap, mR_sJ_, mN_sR_, mK_sR_, mL_sR_, mI_sR_, mJ_sR_, mR_sR_ap, Nat.reduceEqDiff, Nat.reduceAdd, ↓reduceIte, and_true, true_and, and_false, false_and, or_true, true_or, or_false, false_or, not_true_eq_false, not_false_eq_true, i10, i01, ii01, ii02, ii03, ii04, ii05, ii12, ii13, ii14, ii15, ii20, ii21, ii23, ii24, ii25, ii30, ii31, ii32, ii34, ii35, ii40, ii41, ii42, ii43, ii45, ii50, ii51, ii52, ii53, ii54, bi_z, Option.some.injEq, reduceCtorEq, Nat.reduceLeDiff]
      · simp only [f_X6_readFact_b47, f_X6_readFact_b66, b1, nx_eq, ck_true, br_true, br_false, bd_eq, de_eq, mN_sI_, mK_sI_, mL_sI_, mI_sI_ap, mJ_sI_, mR_sI_, mN_sJ_, mK_sJ_, mL_sJ_, mI_sJ_, mJ_sJ_ap, mR_sJ_, mN_sR_, mK_sR_, mL_sR_, mI_sR_, mJ_sR_, mR_sR_ap, Nat.reduceEqDiff, Nat.reduceAdd, ↓reduceIte, and_true, true_and, and_false, false_and, or_true, true_or, or_false, false_or, not_true_eq_false, not_false_eq_true, i10, i01, ii01, ii02, ii03, ii04, ii05, ii12, ii13, ii14, ii15, ii20, ii21, ii23, ii24, ii25, ii30, ii31, ii32, ii34, ii35, ii40, ii41, ii42, ii43, ii45, ii50, ii51, ii52, ii53, ii54, bi_z, Option.some.injEq, reduceCtorEq, Nat.reduceLeDiff]
    rw [rf1]
    rcases L_in F hF hz hD hX hr hRA hE hh (M := M) (by omega) with ⟨c2, m3, j, y1, y2, w1, w2, w3, w4, sc', im', pn, w5, w6, w7, w8, w9, w10⟩ | ⟨c2, m3, y1, y2, y3⟩ | ⟨c2, m3, y1, y2, y3⟩
    · exact Or.inl ⟨c2, m3, j, fin 1 c2 b1 y1, y2, w1, w2, w3, w4, sc', im', pn, w5, w6, w7, w8, w9.lev (by decide), w10⟩
    · exact Or.inr (Or.inl ⟨c2, m3, fin 0 c2 b0 y1, y2, y3⟩)
    · exact Or.inr (Or.inr ⟨c2, m3, fin 1 c2 b1 y1, y2, y3⟩)
