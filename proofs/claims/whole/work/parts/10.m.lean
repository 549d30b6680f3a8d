/-! all and any -/
theorem lp_all (F : Nat) (hF : 1000 ≤ F) {B : Nat → Nat} {n z D X u0 q bl h r i sc : Nat} {c m : Mem} (hz : TZ B n z) (hD : D < 6) (hX : X < 12) (hr : r ≤ 6) {RA : Mem → Nat → Int32 → Option (Int32 × Mem)} (hRA : r < 6 → HRA F B n z D X u0 r RA) (hh : h ≤ 2 * r + 1) (hbase : bl = 0 ∨ ∃ v, v < 7 ∧ mI m 84 (bl - 1) = nI v) :
    ∀ s j k M1 M c1 m1, j + s = z → k ≤ j → z ≤ M1 + j → z + 2 ≤ M + j → OKS B n z D X u0 q bl 7 h c m c1 m1 i sc j → OUT3 F B n z D X u0 q bl 7 h c m i sc (f_X6_readAll_b12 F RA 3 M1 c1 (nI r) (nI k)) (f_X11_condition_b19 F 50 M m1 (nI X) (nI r) (0 : Int32) (1 : Int32)) (KB F B n z X r (fun k => ¬ k = 6)) := by
  have z8 : z ≤ 801 := hz.2.2.1
  have n8 : n ≤ 800 := hz.1
  have n10 : ¬ (1 : Int32) = 0 := by decide
  intro s
  induction s using Nat.strongRecOn with
  | ind s ih =>
    intro j k M1 M c1 m1 hjs hkj hM1 hM2 hOK 
    have hOK' := hOK
    obtain ⟨w1, w2, w3, w4, sc', im', pn, w5, w6, w7, w8, w9, w10, w11, w12⟩ := hOK
    have jz := w6.1.2.2.2.1
    have hCs := w6.1.1
    have hMs := w7.1.1.1
    obtain ⟨M1, rfl⟩ : ∃ x, M1 = x + 1 := ⟨M1 - 1, by omega⟩
    have hpj : tP B n j ≤ n := (skW_ge (B := B) (tS_le B n j)).2
    have eS := e_sees F z8 w6.1 (q := 6) (by decide)
    have eS' : f_X9_sees F c1 4 (some 1000006) = some (bi (tK B n j = 6), c1) := eS
    have hcx : ∀ x, f_X6_readAll_b12_it F RA (f_X6_readAll_b12 F RA 3 M1) 3 c1 (nI r) (nI k) = x → f_X6_readAll_b12 F RA 3 (M1 + 1) c1 (nI r) (nI k) = x := fun x e => e
    by_cases tk : tK B n j = 6
    · rw [bi_t tk] at eS'
      obtain ⟨j1, p1, p2, p3⟩ := hz.nxt jz (show ¬ tK B n j = 22 by omega)
      have p3 := p3 (by omega)
      have k8 : ¬ (800 : Int32) ≤ nI k := nI_ge (b := 800) (by omega) (by decide)
      obtain ⟨M, rfl⟩ : ∃ x, M = x + 1 := ⟨M - 1, by omega⟩
      obtain ⟨eP, hT2⟩ := e_passT F z8 w6.1 j1
      have hC2 := w6.nx F z8 j1
      obtain ⟨c2, hc2⟩ : ∃ c2, sI c1 4 4 (nI (j + 1)) = c2 := ⟨_, rfl⟩
      rw [hc2] at eP hT2 hC2
      have fc2 : FC D c c2 sc := by rw [← hc2]; exact w1.tr (FC.nx D c1 sc _) (Nat.le_refl _)
      have hC2s := hC2.1.1
      have c2p : ∀ x, x ≠ 4 → mI c2 x = mI c1 x := fun x hx => by rw [← hc2, mI_sI_o hx]
      -- the reference: what waits is let out, and the word waits
      have x46 : mI m1 50 46 = nI 7 := by rw [(w7.1.2.2.1.2.2.2.1 (by omega)).2, tk]
      obtain ⟨m2, l1, l2, l3, l4, l5, l6, l7⟩ := lp_leave F (c := c1) (q := 7) hX (Nat.le_refl _) (by decide) pn im' m1 F (by omega) hMs w7.2.2.1 w7.2.2.2 (by omega) (by omega) w9 (by
        rcases hbase with e | ⟨v, v1, v2⟩
        · exact Or.inl e
        · by_cases e : bl = 0
          · exact Or.inl e
          · exact Or.inr ⟨v, v1, by rw [w3 (bl - 1) (by omega)]; exact v2⟩)
      have l1' : f_X11_leave F m1 50 (nI X) (nI 7) = some ((), m2) := l1
      have hM2s : shM m2 := hMs.cg l2.1 l2.2.1 l2.2.2.1
      have v8 := vp_nI (show bl < 820 by omega) (show 820 < 2147483648 by decide)
      have n8' := nI_cl (show bl < 2147483648 by omega)
      have y46 : mI m2 50 46 = nI 7 := by rw [l5 46 (by decide)]; exact x46
      obtain ⟨m3, hm3⟩ : ∃ m3, sI (sI m2 84 bl (nI 7)) 50 49 (nI (bl + 1)) = m3 := ⟨_, rfl⟩
      have fx3 : frX X m1 m3 := by rw [← hm3]; exact (l2.tr frX.s84).tr (frX.s50 (by omega))
      have i50 : ∀ t, t ≠ 49 → mI m3 50 t = mI m1 50 t := fun t ht => by rw [← hm3, mI_sI_j ht, mI_sI_o (by decide), l5 t ht]
      have i84 : mI m3 84 bl = nI 7 ∧ ∀ t, t ≠ bl → mI m3 84 t = mI m1 84 t := by rw [← hm3]; exact ⟨by rw [mI_sI_o (by decide), mI_sI_e], fun t ht => by rw [mI_sI_o (by decide), mI_sI_j ht, l3]⟩
      have iO : ∀ x, x ≠ 50 → x ≠ 84 → mI m3 x = mI m2 x := fun x h1 h2 => by rw [← hm3, mI_sI_o h1, mI_sI_o h2]
      have hM3 : GM B n X m3 j (im' + pn) (bl + 1) := ⟨fx3.RT w7.1 (fun t _ _ => i50 t (by omega)), by rw [i50 41 (by decide)]; exact w7.2.1, by rw [← hm3, mI_sI_e], by rw [iO 81 (by decide) (by decide)]; exact l6⟩
      have hM3s := hM3.1.1.1
      have e5 := e_isW F w7.1 (q := 5) (by decide) (w := 6) rfl
      have e6 := e_isW F w7.1 (q := 6) (by decide) (w := 7) rfl
      rw [bi_f (show ¬ tK B n j = 5 by omega)] at e5
      rw [bi_t tk] at e6
      have rf1 : ∀ x, f_X11_take F m3 50 = x → f_X11_condition_b19 F 50 (M + 1) m1 (nI X) (nI r) (0 : Int32) (1 : Int32) = bd x (fun r15 σ16 => br (r15 = 0) (some ((0 : Int32), σ16)) (f_X11_condition_b19 F 50 M σ16 (nI X) (nI r) (1 : Int32) (1 : Int32))) := by
        intro x ex
        have k50 : mK m3 50 = 11 := by simp only [hM3s]
        show f_X11_condition_b19_it F (f_X11_condition_b19 F 50 M) 50 m1 (nI X) (nI r) (0 : Int32) (1 : Int32) = _
        simp only [f_X11_condition_b19_it, f_X11_condition_b317, hMs, e5, e6, x46, l1', hM2s, l4, y46, v8, n8', nI_1, hm3, k50, ex, nx_eq, ck_true, br_true, br_false, bd_eq, de_eq, mN_sI_, mK_sI_, mL_sI_, mI_sI_ap, mJ_sI_, mR_sI_, mN_sJ_, mK_sJ_, mL_sJ_, mI_sJ_, mJ_sJ_ap, mR_sJ_, mN_sR_, mK_sR_, mL_sR_, mI_sR_, mJ_sR_, mR_sR_ap, Nat.reduceEqDiff, Nat.reduceAdd, ↓reduceIte, and_true, true_and, and_false, false_and, or_true, true_or, or_false, false_or, not_true_eq_false, not_false_eq_true, i10, i01, ii01, ii02, ii03, ii04, ii05, ii12, ii13, ii14, ii15, ii20, ii21, ii23, ii24, ii25, ii30, ii31, ii32, ii34, ii35, ii40, ii41, ii42, ii43, ii45, ii50, ii51, ii52, ii53, ii54, bi_z, Option.some.injEq, reduceCtorEq, Nat.reduceLeDiff]
      have fxm3 : frX X m m3 := w2.tr fx3
      obtain ⟨t1, t2⟩ := hM3.take F hF
      by_cases d1 : tK B n (j + 1) = 21
      · obtain ⟨m', a1, a2, a3, a4⟩ := t2 d1
        refine Or.inr (Or.inl ⟨sI c2 3 2 1, m', hcx _ ?_, by rw [rf1 _ a1, bd_eq, br_t1 rfl], bad_dead hT2 fc2.1 (fxm3.tr a2) a3 a4⟩)
        simp only [f_X6_readAll_b12_it, k8, hCs, eS', eP, hC2s, st_fact F RA z8 hT2 d1, nx_eq, ck_true, br_true, br_false, bd_eq, de_eq, mN_sI_, mK_sI_, mL_sI_, mI_sI_ap, mJ_sI_, mR_sI_, mN_sJ_, mK_sJ_, mL_sJ_, mI_sJ_, mJ_sJ_ap, mR_sJ_, mN_sR_, mK_sR_, mL_sR_, mI_sR_, mJ_sR_, mR_sR_ap, Nat.reduceEqDiff, Nat.reduceAdd, ↓reduceIte, and_true, true_and, and_false, false_and, or_true, true_or, or_false, false_or, not_true_eq_false, not_false_eq_true, i10, i01, ii01, ii02, ii03, ii04, ii05, ii12, ii13, ii14, ii15, ii20, ii21, ii23, ii24, ii25, ii30, ii31, ii32, ii34, ii35, ii40, ii41, ii42, ii43, ii45, ii50, ii51, ii52, ii53, ii54, bi_z, Option.some.injEq, reduceCtorEq, Nat.reduceLeDiff]
      · obtain ⟨m4, a1, hM4, fx4, o4⟩ := t1 d1
        have rf2 := rf1 _ a1
        rw [bd_eq, br_f1 n10] at rf2
        have fxm4 : frX X m m4 := fxm3.tr fx4
        have hE4 : ENT B n z D X u0 (q + 1) (bl + 1) (h + 1) c2 m4 (j + 1) sc' (im' + pn) := ⟨hC2, hM4, by omega, ⟨fun t ht => by rw [c2p 15 (by decide), c2p 16 (by decide), o4 82 (by decide), o4 83 (by decide), iO 82 (by decide) (by decide), iO 83 (by decide) (by decide)]; exact l7.1 t ht, fun t ht => absurd ht (by omega)⟩, by rw [c2p 15 (by decide)]; exact w10, by omega, by omega⟩
        rcases L_fact F hF hz hD hX hr hRA hE4 (by omega) (M := M) (by omega) with ⟨c3, m5, j', y1, ⟨M', y2, y3, y4⟩, x1, x2, x3, x4, sc2, im2, pn2, x5, x6, x7, x8, x9, x10, x11, x12⟩ | ⟨c3, m5, y1, y2, y3⟩ | ⟨c3, m5, y1, y2, x1, x2, j', sc2, x3, x4, x5, x6, x7, x8⟩
        · have hpj' : tP B n j' ≤ n := (skW_ge (B := B) (tS_le B n j')).2
          have jz' := x6.1.2.2.2.1
          have s4 : sc2 < 400 := by omega
          have hC3s := x6.1.1
          have eA := e_addStep F hC3s x6.2.2.1 x6.2.1 hD s4 13 0
          have hC4 := x6.ad 13 0
          obtain ⟨⟨q1, q2⟩, q3, q4⟩ := adS_15 c3 D sc2 13 0
          have cl : f_X6_readAll_b12 F RA 3 (M1 + 1) c1 (nI r) (nI k) = f_X6_readAll_b12 F RA 3 M1 (adS c3 D sc2 13 0) (nI r) (nI (k + 1)) := by
            refine hcx _ ?_
            simp only [f_X6_readAll_b12_it, k8, hCs, eS', eP, hC2s, y1, hC3s, eA, nI_1, nx_eq, ck_true, br_true, br_false, bd_eq, de_eq, mN_sI_, mK_sI_, mL_sI_, mI_sI_ap, mJ_sI_, mR_sI_, mN_sJ_, mK_sJ_, mL_sJ_, mI_sJ_, mJ_sJ_ap, mR_sJ_, mN_sR_, mK_sR_, mL_sR_, mI_sR_, mJ_sR_, mR_sR_ap, Nat.reduceEqDiff, Nat.reduceAdd, ↓reduceIte, and_true, true_and, and_false, false_and, or_true, true_or, or_false, false_or, not_true_eq_false, not_false_eq_true, i10, i01, ii01, ii02, ii03, ii04, ii05, ii12, ii13, ii14, ii15, ii20, ii21, ii23, ii24, ii25, ii30, ii31, ii32, ii34, ii35, ii40, ii41, ii42, ii43, ii45, ii50, ii51, ii52, ii53, ii54, bi_z, Option.some.injEq, reduceCtorEq, Nat.reduceLeDiff]
          have hOK2 : OKS B n z D X u0 q bl 7 h c m (adS c3 D sc2 13 0) m5 i sc j' := by
            refine ⟨(fc2.tr x1 w5).tr (FC.ad D c3 sc2 13 0) (by omega), fxm4.tr x2, fun t ht => ?_, by omega, sc2 + 1, im2, pn2 + 1, by omega, hC4, ?_, by omega, ⟨fun t ht => ?_, fun t ht => ?_⟩, ?_, by omega, by omega⟩
            · rw [x3 t (by omega), o4 84 (by decide), i84.2 t (by omega), w3 t ht]
            · have := x7
              rw [show bl + 1 + pn2 = bl + (pn2 + 1) by omega] at this
              exact this
            · rw [q2 _ (by omega), q4 _ (by omega)]; exact x9.1 t ht
            · by_cases t0 : t = 0
              · subst t0
                refine ⟨7, Nat.le_refl _, by decide, by decide, ?_, ?_, ?_⟩
                · rw [Nat.add_zero, x3 bl (by omega), o4 84 (by decide)]; exact i84.1
                · rw [show u0 + im2 + (pn2 + 1 - 1 - 0) = sc2 by omega, q1]; rfl
                · rw [show u0 + im2 + (pn2 + 1 - 1 - 0) = sc2 by omega, q3]
              · obtain ⟨v, v1, v2, v3, v4, v5, v6⟩ := x9.2 (t - 1) (by omega)
                refine ⟨v, by omega, v2, v3, ?_, ?_, ?_⟩
                · rw [show bl + t = bl + 1 + (t - 1) by omega]; exact v4
                · rw [show u0 + im2 + (pn2 + 1 - 1 - t) = u0 + im2 + (pn2 - 1 - (t - 1)) by omega, q2 _ (by omega)]; exact v5
                · rw [show u0 + im2 + (pn2 + 1 - 1 - t) = u0 + im2 + (pn2 - 1 - (t - 1)) by omega, q4 _ (by omega)]; exact v6
            · have e2 : pileH (mI (adS c3 D sc2 13 0) 15) u0 (sc2 - u0) = some (h + 1 + 1) := by
                rw [← x10]
                exact pileH_ext _ (fun t ht => q2 _ (by omega))
              rw [show sc2 + 1 - u0 = (sc2 - u0) + 1 by omega, pileH_st e2, show u0 + (sc2 - u0) = sc2 by omega, q1, if_neg (by decide), if_pos (by decide), if_pos (by omega)]
              exact congrArg some (by omega)
          rw [cl, rf2, y3]
          exact ih (z - j') (by omega) j' (k + 1) M1 M' _ m5 (by omega) (by omega) (by omega) y2 hOK2 
        · refine Or.inr (Or.inl ⟨c3, m5, hcx _ ?_, by rw [rf2]; exact y2, y3.pre fc2.1 fxm4⟩)
          simp only [f_X6_readAll_b12_it, k8, hCs, eS', eP, hC2s, y1, nx_eq, ck_true, br_true, br_false, bd_eq, de_eq, mN_sI_, mK_sI_, mL_sI_, mI_sI_ap, mJ_sI_, mR_sI_, mN_sJ_, mK_sJ_, mL_sJ_, mI_sJ_, mJ_sJ_ap, mR_sJ_, mN_sR_, mK_sR_, mL_sR_, mI_sR_, mJ_sR_, mR_sR_ap, Nat.reduceEqDiff, Nat.reduceAdd, ↓reduceIte, and_true, true_and, and_false, false_and, or_true, true_or, or_false, false_or, not_true_eq_false, not_false_eq_true, i10, i01, ii01, ii02, ii03, ii04, ii05, ii12, ii13, ii14, ii15, ii20, ii21, ii23, ii24, ii25, ii30, ii31, ii32, ii34, ii35, ii40, ii41, ii42, ii43, ii45, ii50, ii51, ii52, ii53, ii54, bi_z, Option.some.injEq, reduceCtorEq, Nat.reduceLeDiff]
        · have hpj' : tP B n j' ≤ n := (skW_ge (B := B) (tS_le B n j')).2
          have s4 : sc2 < 400 := by omega
          have hC3s := x4.1.1
          have eA := e_addStep F hC3s x4.2.2.1 x4.2.1 hD s4 13 0
          have hC4 := x4.ad 13 0
          have eS4 := e_sees F z8 hC4.1 (q := 6) (by decide)
          rw [bi_f (by omega)] at eS4
          have eS4' : f_X9_sees F (adS c3 D sc2 13 0) 4 (some 1000006) = some (0, adS c3 D sc2 13 0) := eS4
          have hC4s := hC4.1.1
          refine Or.inr (Or.inr ⟨adS c3 D sc2 13 0, m5, hcx _ ?_, by rw [rf2]; exact y2, (fc2.tr x1 w5).tr (FC.ad D c3 sc2 13 0) (by omega), fxm4.tr x2, j', sc2 + 1, by omega, hC4, x5, by omega, x7, x8⟩)
          have nxt : f_X6_readAll_b12 F RA 3 M1 (adS c3 D sc2 13 0) (nI r) (nI (k + 1)) = some (1, adS c3 D sc2 13 0) := by
            obtain ⟨M1, rfl⟩ : ∃ x, M1 = x + 1 := ⟨M1 - 1, by omega⟩
            show f_X6_readAll_b12_it F RA (f_X6_readAll_b12 F RA 3 M1) 3 (adS c3 D sc2 13 0) (nI r) (nI (k + 1)) = _
            by_cases g : (800 : Int32) ≤ nI (k + 1)
            · simp only [f_X6_readAll_b12_it, g, nx_eq, ck_true, br_true, br_false, bd_eq, de_eq, mN_sI_, mK_sI_, mL_sI_, mI_sI_ap, mJ_sI_, mR_sI_, mN_sJ_, mK_sJ_, mL_sJ_, mI_sJ_, mJ_sJ_ap, mR_sJ_, mN_sR_, mK_sR_, mL_sR_, mI_sR_, mJ_sR_, mR_sR_ap, Nat.reduceEqDiff, Nat.reduceAdd, ↓reduceIte, and_true, true_and, and_false, false_and, or_true, true_or, or_false, false_or, not_true_eq_false, not_false_eq_true, i10, i01, ii01, ii02, ii03, ii04, ii05, ii12, ii13, ii14, ii15, ii20, ii21, ii23, ii24, ii25, ii30, ii31, ii32, ii34, ii35, ii40, ii41, ii42, ii43, ii45, ii50, ii51, ii52, ii53, ii54, bi_z, Option.some.injEq, reduceCtorEq, Nat.reduceLeDiff]
            · simp only [f_X6_readAll_b12_it, g, hC4s, eS4', nx_eq, ck_true, br_true, br_false, bd_eq, de_eq, mN_sI_, mK_sI_, mL_sI_, mI_sI_ap, mJ_sI_, mR_sI_, mN_sJ_, mK_sJ_, mL_sJ_, mI_sJ_, mJ_sJ_ap, mR_sJ_, mN_sR_, mK_sR_, mL_sR_, mI_sR_, mJ_sR_, mR_sR_ap, Nat.reduceEqDiff, Nat.reduceAdd, ↓reduceIte, and_true, true_and, and_false, false_and, or_true, true_or, or_false, false_or, not_true_eq_false, not_false_eq_true, i10, i01, ii01, ii02, ii03, ii04, ii05, ii12, ii13, ii14, ii15, ii20, ii21, ii23, ii24, ii25, ii30, ii31, ii32, ii34, ii35, ii40, ii41, ii42, ii43, ii45, ii50, ii51, ii52, ii53, ii54, bi_z, Option.some.injEq, reduceCtorEq, Nat.reduceLeDiff]
          simp only [f_X6_readAll_b12_it, k8, hCs, eS', eP, hC2s, y1, hC3s, eA, nI_1, nxt, nx_eq, ck_true, br_true, br_false, bd_eq, de_eq, mN_sI_, mK_sI_, mL_sI_, mI_sI_ap, mJ_sI_, mR_sI_, mN_sJ_, mK_sJ_, mL_sJ_, mI_sJ_, mJ_sJ_ap, mR_sJ_, mN_sR_, mK_sR_, mL_sR_, mI_sR_, mJ_sR_, mR_sR_ap, Nat.reduceEqDiff, Nat.reduceAdd, ↓reduceIte, and_true, true_and, and_false, false_and, or_true, true_or, or_false, false_or, not_true_eq_false, not_false_eq_true, i10, i01, ii01, ii02, ii03, ii04, ii05, ii12, ii13, ii14, ii15, ii20, ii21, ii23, ii24, ii25, ii30, ii31, ii32, ii34, ii35, ii40, ii41, ii42, ii43, ii45, ii50, ii51, ii52, ii53, ii54, bi_z, Option.some.injEq, reduceCtorEq, Nat.reduceLeDiff]
    · rw [bi_f tk] at eS'
      refine Or.inl ⟨c1, m1, j, hcx _ ?_, ⟨M, hM2, rfl, tk⟩, hOK'⟩
      by_cases g : (800 : Int32) ≤ nI k
      · simp only [f_X6_readAll_b12_it, g, nx_eq, ck_true, br_true, br_false, bd_eq, de_eq, mN_sI_, mK_sI_, mL_sI_, mI_sI_ap, mJ_sI_, mR_sI_, mN_sJ_, mK_sJ_, mL_sJ_, mI_sJ_, mJ_sJ_ap, mR_sJ_, mN_sR_, mK_sR_, mL_sR_, mI_sR_, mJ_sR_, mR_sR_ap, Nat.reduceEqDiff, Nat.reduceAdd, ↓reduceIte, and_true, true_and, and_false, false_and, or_true, true_or, or_false, false_or, not_true_eq_false, not_false_eq_true, i10, i01, ii01, ii02, ii03, ii04, ii05, ii12, ii13, ii14, ii15, ii20, ii21, ii23, ii24, ii25, ii30, ii31, ii32, ii34, ii35, ii40, ii41, ii42, ii43, ii45, ii50, ii51, ii52, ii53, ii54, bi_z, Option.some.injEq, reduceCtorEq, Nat.reduceLeDiff]
      · simp only [f_X6_readAll_b12_it, g, hCs, eS', nx_eq, ck_true, br_true, br_false, bd_eq, de_eq, mN_sI_, mK_sI_, mL_sI_, mI_sI_ap, mJ_sI_, mR_sI_, mN_sJ_, mK_sJ_, mL_sJ_, mI_sJ_, mJ_sJ_ap, mR_sJ_, mN_sR_, mK_sR_, mL_sR_, mI_sR_, mJ_sR_, mR_sR_ap, Nat.reduceEqDiff, Nat.reduceAdd, ↓reduceIte, and_true, true_and, and_false, false_and, or_true, true_or, or_false, false_or, not_true_eq_false, not_false_eq_true, i10, i01, ii01, ii02, ii03, ii04, ii05, ii12, ii13, ii14, ii15, ii20, ii21, ii23, ii24, ii25, ii30, ii31, ii32, ii34, ii35, ii40, ii41, ii42, ii43, ii45, ii50, ii51, ii52, ii53, ii54, bi_z, Option.some.injEq, reduceCtorEq, Nat.reduceLeDiff]
theorem L_all (F : Nat) (hF : 1000 ≤ F) {B : Nat → Nat} {n z D X u0 q bl h r i sc im M : Nat} {c m : Mem} (hz : TZ B n z) (hD : D < 6) (hX : X < 12) (hr : r ≤ 6) {RA : Mem → Nat → Int32 → Option (Int32 × Mem)} (hRA : r < 6 → HRA F B n z D X u0 r RA) (hE : ENT B n z D X u0 q bl h c m i sc im) (hh : h ≤ 2 * r + 1) (hbase : bl = 0 ∨ ∃ v, v < 7 ∧ mI m 84 (bl - 1) = nI v) (hM0 : z + 2 ≤ M + i) :
    OUT3 F B n z D X u0 q bl 7 h c m i sc (f_X6_readAll F RA c 3 (nI r)) (f_X11_condition_b19 F 50 M m (nI X) (nI r) (1 : Int32) (1 : Int32)) (KB F B n z X r (fun k => ¬ k = 6)) := by
  have hCs := hE.1.1.1
  have z8 : z ≤ 801 := hz.2.2.1
  rcases L_fact F hF hz hD hX hr hRA hE (by omega) (M := M) hM0 with ⟨c1, m1, j, y1, ⟨M', y2, y3, y4⟩, w1, w2, w3, w4, sc', im', pn, w5, w6, w7, w8, w9, w10⟩ | ⟨c1, m1, y1, y2, y3⟩ | ⟨c1, m1, y1, y2, w1, w2, j, sc', w3, w4, w5, w6⟩
  · have cl : f_X6_readAll F RA c 3 (nI r) = f_X6_readAll_b12 F RA 3 F c1 (nI r) (nI 0) := by
      have e0 : (nI 0 : Int32) = 0 := rfl
      rw [e0]
      simp only [f_X6_readAll, hCs, y1, nx_eq, ck_true, br_true, br_false, bd_eq, de_eq, mN_sI_, mK_sI_, mL_sI_, mI_sI_ap, mJ_sI_, mR_sI_, mN_sJ_, mK_sJ_, mL_sJ_, mI_sJ_, mJ_sJ_ap, mR_sJ_, mN_sR_, mK_sR_, mL_sR_, mI_sR_, mJ_sR_, mR_sR_ap, Nat.reduceEqDiff, Nat.reduceAdd, ↓reduceIte, and_true, true_and, and_false, false_and, or_true, true_or, or_false, false_or, not_true_eq_false, not_false_eq_true, i10, i01, ii01, ii02, ii03, ii04, ii05, ii12, ii13, ii14, ii15, ii20, ii21, ii23, ii24, ii25, ii30, ii31, ii32, ii34, ii35, ii40, ii41, ii42, ii43, ii45, ii50, ii51, ii52, ii53, ii54, bi_z, Option.some.injEq, reduceCtorEq, Nat.reduceLeDiff]
    rw [cl, y3]
    have jz := w6.1.2.2.2.1
    exact lp_all F hF hz hD hX hr hRA hh hbase (z - j) j 0 F M' c1 m1 (by omega) (by omega) (by omega) y2 ⟨w1, w2, w3, w4, sc', im', pn, w5, w6, w7, w8, w9.lev (by decide), w10⟩ 
  · refine Or.inr (Or.inl ⟨c1, m1, ?_, y2, y3⟩)
    simp only [f_X6_readAll, hCs, y1, nx_eq, ck_true, br_true, br_false, bd_eq, de_eq, mN_sI_, mK_sI_, mL_sI_, mI_sI_ap, mJ_sI_, mR_sI_, mN_sJ_, mK_sJ_, mL_sJ_, mI_sJ_, mJ_sJ_ap, mR_sJ_, mN_sR_, mK_sR_, mL_sR_, mI_sR_, mJ_sR_, mR_sR_ap, Nat.reduceEqDiff, Nat.reduceAdd, ↓reduceIte, and_true, true_and, and_false, false_and, or_true, true_or, or_false, false_or, not_true_eq_false, not_false_eq_true, i10, i01, ii01, ii02, ii03, ii04, ii05, ii12, ii13, ii14, ii15, ii20, ii21, ii23, ii24, ii25, ii30, ii31, ii32, ii34, ii35, ii40, ii41, ii42, ii43, ii45, ii50, ii51, ii52, ii53, ii54, bi_z, Option.some.injEq, reduceCtorEq, Nat.reduceLeDiff]
  · refine Or.inr (Or.inr ⟨c1, m1, ?_, y2, w1, w2, j, sc', w3, w4, w5, w6⟩)
    have hC1s := w4.1.1
    have eS := e_sees F z8 w4.1 (q := 6) (by decide)
    rw [bi_f (by omega)] at eS
    have eS' : f_X9_sees F c1 4 (some 1000006) = some (0, c1) := eS
    have nxt : f_X6_readAll_b12 F RA 3 F c1 (nI r) (0 : Int32) = some (1, c1) := by
      obtain ⟨G, hG⟩ : ∃ x, F = x + 1 := ⟨F - 1, by omega⟩
      have e : f_X6_readAll_b12 F RA 3 (G + 1) c1 (nI r) (0 : Int32) = some (1, c1) := by
        show f_X6_readAll_b12_it F RA (f_X6_readAll_b12 F RA 3 G) 3 c1 (nI r) (0 : Int32) = _
        have g : ¬ (800 : Int32) ≤ 0 := by decide
        simp only [f_X6_readAll_b12_it, g, hC1s, eS', nx_eq, ck_true, br_true, br_false, bd_eq, de_eq, mN_sI_, mK_sI_, mL_sI_, mI_sI_ap, mJ_sI_, mR_sI_, mN_sJ_, mK_sJ_, mL_sJ_, mI_sJ_, mJ_sJ_ap, mR_sJ_, mN_sR_, mK_sR_, mL_sR_, mI_sR_, mJ_sR_, mR_sR_ap, Nat.reduceEqDiff, Nat.reduceAdd, ↓reduceIte, and_true, true_and, and_false, false_and, or_true, true_or, or_false, false_or, not_true_eq_false, not_false_eq_true, i10, i01, ii01, ii02, ii03, ii04, ii05, ii12, ii13, ii14, ii15, ii20, ii21, ii23, ii24, ii25, ii30, ii31, ii32, ii34, ii35, ii40, ii41, ii42, ii43, ii45, ii50, ii51, ii52, ii53, ii54, bi_z, Option.some.injEq, reduceCtorEq, Nat.reduceLeDiff]
      rw [← hG] at e
      exact e
    simp only [f_X6_readAll, hCs, y1, nxt, nx_eq, ck_true, br_true, br_false, bd_eq, de_eq, mN_sI_, mK_sI_, mL_sI_, mI_sI_ap, mJ_sI_, mR_sI_, mN_sJ_, mK_sJ_, mL_sJ_, mI_sJ_, mJ_sJ_ap, mR_sJ_, mN_sR_, mK_sR_, mL_sR_, mI_sR_, mJ_sR_, mR_sR_ap, Nat.reduceEqDiff, Nat.reduceAdd, ↓reduceIte, and_true, true_and, and_false, false_and, or_true, true_or, or_false, false_or, not_true_eq_false, not_false_eq_true, i10, i01, ii01, ii02, ii03, ii04, ii05, ii12, ii13, ii14, ii15, ii20, ii21, ii23, ii24, ii25, ii30, ii31, ii32, ii34, ii35, ii40, ii41, ii42, ii43, ii45, ii50, ii51, ii52, ii53, ii54, bi_z, Option.some.injEq, reduceCtorEq, Nat.reduceLeDiff]

theorem lp_any (F : Nat) (hF : 1000 ≤ F) {B : Nat → Nat} {n z D X u0 q bl h r i sc : Nat} {c m : Mem} (hz : TZ B n z) (hD : D < 6) (hX : X < 12) (hr : r ≤ 6) {RA : Mem → Nat → Int32 → Option (Int32 × Mem)} (hRA : r < 6 → HRA F B n z D X u0 r RA) (hh : h ≤ 2 * r) (hbase : bl = 0 ∨ ∃ v, v < 6 ∧ mI m 84 (bl - 1) = nI v) :
    ∀ s j k M1 M c1 m1, j + s = z → k ≤ j → z ≤ M1 + j → z + 2 ≤ M + j → OKS B n z D X u0 q bl 6 h c m c1 m1 i sc j → ¬ tK B n j = 6 → OUT3 F B n z D X u0 q bl 6 h c m i sc (f_X6_readAny_b12 F RA 3 M1 c1 (nI r) (nI k)) (f_X11_condition_b19 F 50 M m1 (nI X) (nI r) (0 : Int32) (1 : Int32)) (KB F B n z X r (fun k => ¬ k = 5 ∧ ¬ k = 6)) := by
  have z8 : z ≤ 801 := hz.2.2.1
  have n8 : n ≤ 800 := hz.1
  have n10 : ¬ (1 : Int32) = 0 := by decide
  intro s
  induction s using Nat.strongRecOn with
  | ind s ih =>
    intro j k M1 M c1 m1 hjs hkj hM1 hM2 hOK hn6
    have hOK' := hOK
    obtain ⟨w1, w2, w3, w4, sc', im', pn, w5, w6, w7, w8, w9, w10, w11, w12⟩ := hOK
    have jz := w6.1.2.2.2.1
    have hCs := w6.1.1
    have hMs := w7.1.1.1
    obtain ⟨M1, rfl⟩ : ∃ x, M1 = x + 1 := ⟨M1 - 1, by omega⟩
    have hpj : tP B n j ≤ n := (skW_ge (B := B) (tS_le B n j)).2
    have eS := e_sees F z8 w6.1 (q := 5) (by decide)
    have eS' : f_X9_sees F c1 4 (some 1000005) = some (bi (tK B n j = 5), c1) := eS
    have hcx : ∀ x, f_X6_readAny_b12_it F RA (f_X6_readAny_b12 F RA 3 M1) 3 c1 (nI r) (nI k) = x → f_X6_readAny_b12 F RA 3 (M1 + 1) c1 (nI r) (nI k) = x := fun x e => e
    by_cases tk : tK B n j = 5
    · rw [bi_t tk] at eS'
      obtain ⟨j1, p1, p2, p3⟩ := hz.nxt jz (show ¬ tK B n j = 22 by omega)
      have p3 := p3 (by omega)
      have k8 : ¬ (800 : Int32) ≤ nI k := nI_ge (b := 800) (by omega) (by decide)
      obtain ⟨M, rfl⟩ : ∃ x, M = x + 1 := ⟨M - 1, by omega⟩
      obtain ⟨eP, hT2⟩ := e_passT F z8 w6.1 j1
      have hC2 := w6.nx F z8 j1
      obtain ⟨c2, hc2⟩ : ∃ c2, sI c1 4 4 (nI (j + 1)) = c2 := ⟨_, rfl⟩
      rw [hc2] at eP hT2 hC2
      have fc2 : FC D c c2 sc := by rw [← hc2]; exact w1.tr (FC.nx D c1 sc _) (Nat.le_refl _)
      have hC2s := hC2.1.1
      have c2p : ∀ x, x ≠ 4 → mI c2 x = mI c1 x := fun x hx => by rw [← hc2, mI_sI_o hx]
      -- the reference: what waits is let out, and the word waits
      have x46 : mI m1 50 46 = nI 6 := by rw [(w7.1.2.2.1.2.2.2.1 (by omega)).2, tk]
      obtain ⟨m2, l1, l2, l3, l4, l5, l6, l7⟩ := lp_leave F (c := c1) (q := 6) hX (Nat.le_refl _) (by decide) pn im' m1 F (by omega) hMs w7.2.2.1 w7.2.2.2 (by omega) (by omega) w9 (by
        rcases hbase with e | ⟨v, v1, v2⟩
        · exact Or.inl e
        · by_cases e : bl = 0
          · exact Or.inl e
          · exact Or.inr ⟨v, v1, by rw [w3 (bl - 1) (by omega)]; exact v2⟩)
      have l1' : f_X11_leave F m1 50 (nI X) (nI 6) = some ((), m2) := l1
      have hM2s : shM m2 := hMs.cg l2.1 l2.2.1 l2.2.2.1
      have v8 := vp_nI (show bl < 820 by omega) (show 820 < 2147483648 by decide)
      have n8' := nI_cl (show bl < 2147483648 by omega)
      have y46 : mI m2 50 46 = nI 6 := by rw [l5 46 (by decide)]; exact x46
      obtain ⟨m3, hm3⟩ : ∃ m3, sI (sI m2 84 bl (nI 6)) 50 49 (nI (bl + 1)) = m3 := ⟨_, rfl⟩
      have fx3 : frX X m1 m3 := by rw [← hm3]; exact (l2.tr frX.s84).tr (frX.s50 (by omega))
      have i50 : ∀ t, t ≠ 49 → mI m3 50 t = mI m1 50 t := fun t ht => by rw [← hm3, mI_sI_j ht, mI_sI_o (by decide), l5 t ht]
      have i84 : mI m3 84 bl = nI 6 ∧ ∀ t, t ≠ bl → mI m3 84 t = mI m1 84 t := by rw [← hm3]; exact ⟨by rw [mI_sI_o (by decide), mI_sI_e], fun t ht => by rw [mI_sI_o (by decide), mI_sI_j ht, l3]⟩
      have iO : ∀ x, x ≠ 50 → x ≠ 84 → mI m3 x = mI m2 x := fun x h1 h2 => by rw [← hm3, mI_sI_o h1, mI_sI_o h2]
      have hM3 : GM B n X m3 j (im' + pn) (bl + 1) := ⟨fx3.RT w7.1 (fun t _ _ => i50 t (by omega)), by rw [i50 41 (by decide)]; exact w7.2.1, by rw [← hm3, mI_sI_e], by rw [iO 81 (by decide) (by decide)]; exact l6⟩
      have hM3s := hM3.1.1.1
      have e5 := e_isW F w7.1 (q := 5) (by decide) (w := 6) rfl
      have e6 := e_isW F w7.1 (q := 6) (by decide) (w := 7) rfl
      rw [bi_t tk] at e5
      have rf1 : ∀ x, f_X11_take F m3 50 = x → f_X11_condition_b19 F 50 (M + 1) m1 (nI X) (nI r) (0 : Int32) (1 : Int32) = bd x (fun r15 σ16 => br (r15 = 0) (some ((0 : Int32), σ16)) (f_X11_condition_b19 F 50 M σ16 (nI X) (nI r) (1 : Int32) (1 : Int32))) := by
        intro x ex
        have k50 : mK m3 50 = 11 := by simp only [hM3s]
        show f_X11_condition_b19_it F (f_X11_condition_b19 F 50 M) 50 m1 (nI X) (nI r) (0 : Int32) (1 : Int32) = _
        simp only [f_X11_condition_b19_it, f_X11_condition_b317, hMs, e5, x46, l1', hM2s, l4, y46, v8, n8', nI_1, hm3, k50, ex, nx_eq, ck_true, br_true, br_false, bd_eq, de_eq, mN_sI_, mK_sI_, mL_sI_, mI_sI_ap, mJ_sI_, mR_sI_, mN_sJ_, mK_sJ_, mL_sJ_, mI_sJ_, mJ_sJ_ap, mR_sJ_, mN_sR_, mK_sR_, mL_sR_, mI_sR_, mJ_sR_, mR_sR_ap, Nat.reduceEqDiff, Nat.reduceAdd, ↓reduceIte, and_true, true_and, and_false, false_and, or_true, true_or, or_false, false_or, not_true_eq_false, not_false_eq_true, i10, i01, ii01, ii02, ii03, ii04, ii05, ii12, ii13, ii14, ii15, ii20, ii21, ii23, ii24, ii25, ii30, ii31, ii32, ii34, ii35, ii40, ii41, ii42, ii43, ii45, ii50, ii51, ii52, ii53, ii54, bi_z, Option.some.injEq, reduceCtorEq, Nat.reduceLeDiff]
      have fxm3 : frX X m m3 := w2.tr fx3
      obtain ⟨t1, t2⟩ := hM3.take F hF
      by_cases d1 : tK B n (j + 1) = 21
      · obtain ⟨m', a1, a2, a3, a4⟩ := t2 d1
        refine Or.inr (Or.inl ⟨sI c2 3 2 1, m', hcx _ ?_, by rw [rf1 _ a1, bd_eq, br_t1 rfl], bad_dead hT2 fc2.1 (fxm3.tr a2) a3 a4⟩)
        simp only [f_X6_readAny_b12_it, k8, hCs, eS', eP, hC2s, st_all F RA z8 hT2 d1, nx_eq, ck_true, br_true, br_false, bd_eq, de_eq, mN_sI_, mK_sI_, mL_sI_, mI_sI_ap, mJ_sI_, mR_sI_, mN_sJ_, mK_sJ_, mL_sJ_, mI_sJ_, mJ_sJ_ap, mR_sJ_, mN_sR_, mK_sR_, mL_sR_, mI_sR_, mJ_sR_, mR_sR_ap, Nat.reduceEqDiff, Nat.reduceAdd, ↓reduceIte, and_true, true_and, and_false, false_and, or_true, true_or, or_false, false_or, not_true_eq_false, not_false_eq_true, i10, i01, ii01, ii02, ii03, ii04, ii05, ii12, ii13, ii14, ii15, ii20, ii21, ii23, ii24, ii25, ii30, ii31, ii32, ii34, ii35, ii40, ii41, ii42, ii43, ii45, ii50, ii51, ii52, ii53, ii54, bi_z, Option.some.injEq, reduceCtorEq, Nat.reduceLeDiff]
      · obtain ⟨m4, a1, hM4, fx4, o4⟩ := t1 d1
        have rf2 := rf1 _ a1
        rw [bd_eq, br_f1 n10] at rf2
        have fxm4 : frX X m m4 := fxm3.tr fx4
        have hE4 : ENT B n z D X u0 (q + 1) (bl + 1) (h + 1) c2 m4 (j + 1) sc' (im' + pn) := ⟨hC2, hM4, by omega, ⟨fun t ht => by rw [c2p 15 (by decide), c2p 16 (by decide), o4 82 (by decide), o4 83 (by decide), iO 82 (by decide) (by decide), iO 83 (by decide) (by decide)]; exact l7.1 t ht, fun t ht => absurd ht (by omega)⟩, by rw [c2p 15 (by decide)]; exact w10, by omega, by omega⟩
        rcases L_all F hF hz hD hX hr hRA hE4 (by omega) (Or.inr ⟨6, by decide, by rw [show bl + 1 - 1 = bl by omega, o4 84 (by decide)]; exact i84.1⟩) (M := M) (by omega) with ⟨c3, m5, j', y1, ⟨M', y2, y3, y4⟩, x1, x2, x3, x4, sc2, im2, pn2, x5, x6, x7, x8, x9, x10, x11, x12⟩ | ⟨c3, m5, y1, y2, y3⟩ | ⟨c3, m5, y1, y2, x1, x2, j', sc2, x3, x4, x5, x6, x7, x8⟩
        · have hpj' : tP B n j' ≤ n := (skW_ge (B := B) (tS_le B n j')).2
          have jz' := x6.1.2.2.2.1
          have s4 : sc2 < 400 := by omega
          have hC3s := x6.1.1
          have eA := e_addStep F hC3s x6.2.2.1 x6.2.1 hD s4 14 0
          have hC4 := x6.ad 14 0
          obtain ⟨⟨q1, q2⟩, q3, q4⟩ := adS_15 c3 D sc2 14 0
          have cl : f_X6_readAny_b12 F RA 3 (M1 + 1) c1 (nI r) (nI k) = f_X6_readAny_b12 F RA 3 M1 (adS c3 D sc2 14 0) (nI r) (nI (k + 1)) := by
            refine hcx _ ?_
            simp only [f_X6_readAny_b12_it, k8, hCs, eS', eP, hC2s, y1, hC3s, eA, nI_1, nx_eq, ck_true, br_true, br_false, bd_eq, de_eq, mN_sI_, mK_sI_, mL_sI_, mI_sI_ap, mJ_sI_, mR_sI_, mN_sJ_, mK_sJ_, mL_sJ_, mI_sJ_, mJ_sJ_ap, mR_sJ_, mN_sR_, mK_sR_, mL_sR_, mI_sR_, mJ_sR_, mR_sR_ap, Nat.reduceEqDiff, Nat.reduceAdd, ↓reduceIte, and_true, true_and, and_false, false_and, or_true, true_or, or_false, false_or, not_true_eq_false, not_false_eq_true, i10, i01, ii01, ii02, ii03, ii04, ii05, ii12, ii13, ii14, ii15, ii20, ii21, ii23, ii24, ii25, ii30, ii31, ii32, ii34, ii35, ii40, ii41, ii42, ii43, ii45, ii50, ii51, ii52, ii53, ii54, bi_z, Option.some.injEq, reduceCtorEq, Nat.reduceLeDiff]
          have hOK2 : OKS B n z D X u0 q bl 6 h c m (adS c3 D sc2 14 0) m5 i sc j' := by
            refine ⟨(fc2.tr x1 w5).tr (FC.ad D c3 sc2 14 0) (by omega), fxm4.tr x2, fun t ht => ?_, by omega, sc2 + 1, im2, pn2 + 1, by omega, hC4, ?_, by omega, ⟨fun t ht => ?_, fun t ht => ?_⟩, ?_, by omega, by omega⟩
            · rw [x3 t (by omega), o4 84 (by decide), i84.2 t (by omega), w3 t ht]
            · have := x7
              rw [show bl + 1 + pn2 = bl + (pn2 + 1) by omega] at this
              exact this
            · rw [q2 _ (by omega), q4 _ (by omega)]; exact x9.1 t ht
            · by_cases t0 : t = 0
              · subst t0
                refine ⟨6, Nat.le_refl _, by decide, by decide, ?_, ?_, ?_⟩
                · rw [Nat.add_zero, x3 bl (by omega), o4 84 (by decide)]; exact i84.1
                · rw [show u0 + im2 + (pn2 + 1 - 1 - 0) = sc2 by omega, q1]; rfl
                · rw [show u0 + im2 + (pn2 + 1 - 1 - 0) = sc2 by omega, q3]
              · obtain ⟨v, v1, v2, v3, v4, v5, v6⟩ := x9.2 (t - 1) (by omega)
                refine ⟨v, by omega, v2, v3, ?_, ?_, ?_⟩
                · rw [show bl + t = bl + 1 + (t - 1) by omega]; exact v4
                · rw [show u0 + im2 + (pn2 + 1 - 1 - t) = u0 + im2 + (pn2 - 1 - (t - 1)) by omega, q2 _ (by omega)]; exact v5
                · rw [show u0 + im2 + (pn2 + 1 - 1 - t) = u0 + im2 + (pn2 - 1 - (t - 1)) by omega, q4 _ (by omega)]; exact v6
            · have e2 : pileH (mI (adS c3 D sc2 14 0) 15) u0 (sc2 - u0) = some (h + 1 + 1) := by
                rw [← x10]
                exact pileH_ext _ (fun t ht => q2 _ (by omega))
              rw [show sc2 + 1 - u0 = (sc2 - u0) + 1 by omega, pileH_st e2, show u0 + (sc2 - u0) = sc2 by omega, q1, if_neg (by decide), if_pos (by decide), if_pos (by omega)]
              exact congrArg some (by omega)
          rw [cl, rf2, y3]
          exact ih (z - j') (by omega) j' (k + 1) M1 M' _ m5 (by omega) (by omega) (by omega) y2 hOK2 y4
        · refine Or.inr (Or.inl ⟨c3, m5, hcx _ ?_, by rw [rf2]; exact y2, y3.pre fc2.1 fxm4⟩)
          simp only [f_X6_readAny_b12_it, k8, hCs, eS', eP, hC2s, y1, nx_eq, ck_true, br_true, br_false, bd_eq, de_eq, mN_sI_, mK_sI_, mL_sI_, mI_sI_ap, mJ_sI_, mR_sI_, mN_sJ_, mK_sJ_, mL_sJ_, mI_sJ_, mJ_sJ_ap, mR_sJ_, mN_sR_, mK_sR_, mL_sR_, mI_sR_, mJ_sR_, mR_sR_ap, Nat.reduceEqDiff, Nat.reduceAdd, ↓reduceIte, and_true, true_and, and_false, false_and, or_true, true_or, or_false, false_or, not_true_eq_false, not_false_eq_true, i10, i01, ii01, ii02, ii03, ii04, ii05, ii12, ii13, ii14, ii15, ii20, ii21, ii23, ii24, ii25, ii30, ii31, ii32, ii34, ii35, ii40, ii41, ii42, ii43, ii45, ii50, ii51, ii52, ii53, ii54, bi_z, Option.some.injEq, reduceCtorEq, Nat.reduceLeDiff]
        · have hpj' : tP B n j' ≤ n := (skW_ge (B := B) (tS_le B n j')).2
          have s4 : sc2 < 400 := by omega
          have hC3s := x4.1.1
          have eA := e_addStep F hC3s x4.2.2.1 x4.2.1 hD s4 14 0
          have hC4 := x4.ad 14 0
          have eS4 := e_sees F z8 hC4.1 (q := 5) (by decide)
          rw [bi_f (by omega)] at eS4
          have eS4' : f_X9_sees F (adS c3 D sc2 14 0) 4 (some 1000005) = some (0, adS c3 D sc2 14 0) := eS4
          have hC4s := hC4.1.1
          refine Or.inr (Or.inr ⟨adS c3 D sc2 14 0, m5, hcx _ ?_, by rw [rf2]; exact y2, (fc2.tr x1 w5).tr (FC.ad D c3 sc2 14 0) (by omega), fxm4.tr x2, j', sc2 + 1, by omega, hC4, x5, by omega, x7, x8⟩)
          have nxt : f_X6_readAny_b12 F RA 3 M1 (adS c3 D sc2 14 0) (nI r) (nI (k + 1)) = some (1, adS c3 D sc2 14 0) := by
            obtain ⟨M1, rfl⟩ : ∃ x, M1 = x + 1 := ⟨M1 - 1, by omega⟩
            show f_X6_readAny_b12_it F RA (f_X6_readAny_b12 F RA 3 M1) 3 (adS c3 D sc2 14 0) (nI r) (nI (k + 1)) = _
            by_cases g : (800 : Int32) ≤ nI (k + 1)
            · simp only [f_X6_readAny_b12_it, g, nx_eq, ck_true, br_true, br_false, bd_eq, de_eq, mN_sI_, mK_sI_, mL_sI_, mI_sI_ap, mJ_sI_, mR_sI_, mN_sJ_, mK_sJ_, mL_sJ_, mI_sJ_, mJ_sJ_ap, mR_sJ_, mN_sR_, mK_sR_, mL_sR_, mI_sR_, mJ_sR_, mR_sR_ap, Nat.reduceEqDiff, Nat.reduceAdd, ↓reduceIte, and_true, true_and, and_false, false_and, or_true, true_or, or_false, false_or, not_true_eq_false, not_false_eq_true, i10, i01, ii01, ii02, ii03, ii04, ii05, ii12, ii13, ii14, ii15, ii20, ii21, ii23, ii24, ii25, ii30, ii31, ii32, ii34, ii35, ii40, ii41, ii42, ii43, ii45, ii50, ii51, ii52, ii53, ii54, bi_z, Option.some.injEq, reduceCtorEq, Nat.reduceLeDiff]
            · simp only [f_X6_readAny_b12_it, g, hC4s, eS4', nx_eq, ck_true, br_true, br_false, bd_eq, de_eq, mN_sI_, mK_sI_, mL_sI_, mI_sI_ap, mJ_sI_, mR_sI_, mN_sJ_, mK_sJ_, mL_sJ_, mI_sJ_, mJ_sJ_ap, mR_sJ_, mN_sR_, mK_sR_, mL_sR_, mI_sR_, mJ_sR_, mR_sR_ap, Nat.reduceEqDiff, Nat.reduceAdd, ↓reduceIte, and_true, true_and, and_false, false_and, or_true, true_or, or_false, false_or, not_true_eq_false, not_false_eq_true, i10, i01, ii01, ii02, ii03, ii04, ii05, ii12, ii13, ii14, ii15, ii20, ii21, ii23, ii24, ii25, ii30, ii31, ii32, ii34, ii35, ii40, ii41, ii42, ii43, ii45, ii50, ii51, ii52, ii53, ii54, bi_z, Option.some.injEq, reduceCtorEq, Nat.reduceLeDiff]
          simp only [f_X6_readAny_b12_it, k8, hCs, eS', eP, hC2s, y1, hC3s, eA, nI_1, nxt, nx_eq, ck_true, br_true, br_false, bd_eq, de_eq, mN_sI_, mK_sI_, mL_sI_, mI_sI_ap, mJ_sI_, mR_sI_, mN_sJ_, mK_sJ_, mL_sJ_, mI_sJ_, mJ_sJ_ap, mR_sJ_, mN_sR_, mK_sR_, mL_sR_, mI_sR_, mJ_sR_, mR_sR_ap, Nat.reduceEqDiff, Nat.reduceAdd, ↓reduceIte, and_true, true_and, and_false, false_and, or_true, true_or, or_false, false_or, not_true_eq_false, not_false_eq_true, i10, i01, ii01, ii02, ii03, ii04, ii05, ii12, ii13, ii14, ii15, ii20, ii21, ii23, ii24, ii25, ii30, ii31, ii32, ii34, ii35, ii40, ii41, ii42, ii43, ii45, ii50, ii51, ii52, ii53, ii54, bi_z, Option.some.injEq, reduceCtorEq, Nat.reduceLeDiff]
    · rw [bi_f tk] at eS'
      refine Or.inl ⟨c1, m1, j, hcx _ ?_, ⟨M, hM2, rfl, ⟨tk, hn6⟩⟩, hOK'⟩
      by_cases g : (800 : Int32) ≤ nI k
      · simp only [f_X6_readAny_b12_it, g, nx_eq, ck_true, br_true, br_false, bd_eq, de_eq, mN_sI_, mK_sI_, mL_sI_, mI_sI_ap, mJ_sI_, mR_sI_, mN_sJ_, mK_sJ_, mL_sJ_, mI_sJ_, mJ_sJ_ap, mR_sJ_, mN_sR_, mK_sR_, mL_sR_, mI_sR_, mJ_sR_, mR_sR_ap, Nat.reduceEqDiff, Nat.reduceAdd, ↓reduceIte, and_true, true_and, and_false, false_and, or_true, true_or, or_false, false_or, not_true_eq_false, not_false_eq_true, i10, i01, ii01, ii02, ii03, ii04, ii05, ii12, ii13, ii14, ii15, ii20, ii21, ii23, ii24, ii25, ii30, ii31, ii32, ii34, ii35, ii40, ii41, ii42, ii43, ii45, ii50, ii51, ii52, ii53, ii54, bi_z, Option.some.injEq, reduceCtorEq, Nat.reduceLeDiff]
      · simp only [f_X6_readAny_b12_it, g, hCs, eS', nx_eq, ck_true, br_true, br_false, bd_eq, de_eq, mN_sI_, mK_sI_, mL_sI_, mI_sI_ap, mJ_sI_, mR_sI_, mN_sJ_, mK_sJ_, mL_sJ_, mI_sJ_, mJ_sJ_ap, mR_sJ_, mN_sR_, mK_sR_, mL_sR_, mI_sR_, mJ_sR_, mR_sR_ap, Nat.reduceEqDiff, Nat.reduceAdd, ↓reduceIte, and_true, true_and, and_false, false_and, or_true, true_or, or_false, false_or, not_true_eq_false, not_false_eq_true, i10, i01, ii01, ii02, ii03, ii04, ii05, ii12, ii13, ii14, ii15, ii20, ii21, ii23, ii24, ii25, ii30, ii31, ii32, ii34, ii35, ii40, ii41, ii42, ii43, ii45, ii50, ii51, ii52, ii53, ii54, bi_z, Option.some.injEq, reduceCtorEq, Nat.reduceLeDiff]
theorem L_any (F : Nat) (hF : 1000 ≤ F) {B : Nat → Nat} {n z D X u0 q bl h r i sc im M : Nat} {c m : Mem} (hz : TZ B n z) (hD : D < 6) (hX : X < 12) (hr : r ≤ 6) {RA : Mem → Nat → Int32 → Option (Int32 × Mem)} (hRA : r < 6 → HRA F B n z D X u0 r RA) (hE : ENT B n z D X u0 q bl h c m i sc im) (hh : h ≤ 2 * r) (hbase : bl = 0 ∨ ∃ v, v < 6 ∧ mI m 84 (bl - 1) = nI v) (hM0 : z + 2 ≤ M + i) :
    OUT3 F B n z D X u0 q bl 6 h c m i sc (f_X6_readAny F RA c 3 (nI r)) (f_X11_condition_b19 F 50 M m (nI X) (nI r) (1 : Int32) (1 : Int32)) (KB F B n z X r (fun k => ¬ k = 5 ∧ ¬ k = 6)) := by
  have hCs := hE.1.1.1
  have z8 : z ≤ 801 := hz.2.2.1
  rcases L_all F hF hz hD hX hr hRA hE (by omega) (by rcases hbase with e | ⟨v, v1, v2⟩; exact Or.inl e; exact Or.inr ⟨v, by omega, v2⟩) (M := M) hM0 with ⟨c1, m1, j, y1, ⟨M', y2, y3, y4⟩, w1, w2, w3, w4, sc', im', pn, w5, w6, w7, w8, w9, w10⟩ | ⟨c1, m1, y1, y2, y3⟩ | ⟨c1, m1, y1, y2, w1, w2, j, sc', w3, w4, w5, w6⟩
  · have cl : f_X6_readAny F RA c 3 (nI r) = f_X6_readAny_b12 F RA 3 F c1 (nI r) (nI 0) := by
      have e0 : (nI 0 : Int32) = 0 := rfl
      rw [e0]
      simp only [f_X6_readAny, hCs, y1, nx_eq, ck_true, br_true, br_false, bd_eq, de_eq, mN_sI_, mK_sI_, mL_sI_, mI_sI_ap, mJ_sI_, mR_sI_, mN_sJ_, mK_sJ_, mL_sJ_, mI_sJ_, mJ_sJ_ap, mR_sJ_, mN_sR_, mK_sR_, mL_sR_, mI_sR_, mJ_sR_, mR_sR_ap, Nat.reduceEqDiff, Nat.reduceAdd, ↓reduceIte, and_true, true_and, and_false, false_and, or_true, true_or, or_false, false_or, not_true_eq_false, not_false_eq_true, i10, i01, ii01, ii02, ii03, ii04, ii05, ii12, ii13, ii14, ii15, ii20, ii21, ii23, ii24, ii25, ii30, ii31, ii32, ii34, ii35, ii40, ii41, ii42, ii43, ii45, ii50, ii51, ii52, ii53, ii54, bi_z, Option.some.injEq, reduceCtorEq, Nat.reduceLeDiff]
    rw [cl, y3]
    have jz := w6.1.2.2.2.1
    exact lp_any F hF hz hD hX hr hRA hh hbase (z - j) j 0 F M' c1 m1 (by omega) (by omega) (by omega) y2 ⟨w1, w2, w3, w4, sc', im', pn, w5, w6, w7, w8, w9.lev (by decide), w10⟩ y4
  · refine Or.inr (Or.inl ⟨c1, m1, ?_, y2, y3⟩)
    simp only [f_X6_readAny, hCs, y1, nx_eq, ck_true, br_true, br_false, bd_eq, de_eq, mN_sI_, mK_sI_, mL_sI_, mI_sI_ap, mJ_sI_, mR_sI_, mN_sJ_, mK_sJ_, mL_sJ_, mI_sJ_, mJ_sJ_ap, mR_sJ_, mN_sR_, mK_sR_, mL_sR_, mI_sR_, mJ_sR_, mR_sR_ap, Nat.reduceEqDiff, Nat.reduceAdd, ↓reduceIte, and_true, true_and, and_false, false_and, or_true, true_or, or_false, false_or, not_true_eq_false, not_false_eq_true, i10, i01, ii01, ii02, ii03, ii04, ii05, ii12, ii13, ii14, ii15, ii20, ii21, ii23, ii24, ii25, ii30, ii31, ii32, ii34, ii35, ii40, ii41, ii42, ii43, ii45, ii50, ii51, ii52, ii53, ii54, bi_z, Option.some.injEq, reduceCtorEq, Nat.reduceLeDiff]
  · refine Or.inr (Or.inr ⟨c1, m1, ?_, y2, w1, w2, j, sc', w3, w4, w5, w6⟩)
    have hC1s := w4.1.1
    have eS := e_sees F z8 w4.1 (q := 5) (by decide)
    rw [bi_f (by omega)] at eS
    have eS' : f_X9_sees F c1 4 (some 1000005) = some (0, c1) := eS
    have nxt : f_X6_readAny_b12 F RA 3 F c1 (nI r) (0 : Int32) = some (1, c1) := by
      obtain ⟨G, hG⟩ : ∃ x, F = x + 1 := ⟨F - 1, by omega⟩
      have e : f_X6_readAny_b12 F RA 3 (G + 1) c1 (nI r) (0 : Int32) = some (1, c1) := by
        show f_X6_readAny_b12_it F RA (f_X6_readAny_b12 F RA 3 G) 3 c1 (nI r) (0 : Int32) = _
        have g : ¬ (800 : Int32) ≤ 0 := by decide
        simp only [f_X6_readAny_b12_it, g, hC1s, eS', nx_eq, ck_true, br_true, br_false, bd_eq, de_eq, mN_sI_, mK_sI_, mL_sI_, mI_sI_ap, mJ_sI_, mR_sI_, mN_sJ_, mK_sJ_, mL_sJ_, mI_sJ_, mJ_sJ_ap, mR_sJ_, mN_sR_, mK_sR_, mL_sR_, mI_sR_, mJ_sR_, mR_sR_ap, Nat.reduceEqDiff, Nat.reduceAdd, ↓reduceIte, and_true, true_and, and_false, false_and, or_true, true_or, or_false, false_or, not_true_eq_false, not_false_eq_true, i10, i01, ii01, ii02, ii03, ii04, ii05, ii12, ii13, ii14, ii15, ii20, ii21, ii23, ii24, ii25, ii30, ii31, ii32, ii34, ii35, ii40, ii41, ii42, ii43, ii45, ii50, ii51, ii52, ii53, ii54, bi_z, Option.some.injEq, reduceCtorEq, Nat.reduceLeDiff]
      rw [← hG] at e
      exact e
    simp only [f_X6_readAny, hCs, y1, nxt, nx_eq, ck_true, br_true, br_false, bd_eq, de_eq, mN_sI_, mK_sI_, mL_sI_, mI_sI_ap, mJ_sI_, mR_sI_, mN_sJ_, mK_sJ_, mL_sJ_, mI_sJ_, mJ_sJ_ap, mR_sJ_, mN_sR_, mK_sR_, mL_sR_, mI_sR_, mJ_sR_, mR_sR_ap, Nat.reduceEqDiff, Nat.reduceAdd, ↓reduceIte, and_true, true_and, and_false, false_and, or_true, true_or, or_false, false_or, not_true_eq_false, not_false_eq_true, i10, i01, ii01, ii02, ii03, ii04, ii05, ii12, ii13, ii14, ii15, ii20, ii21, ii23, ii24, ii25, ii30, ii31, ii32, ii34, ii35, ii40, ii41, ii42, ii43, ii45, ii50, ii51, ii52, ii53, ii54, bi_z, Option.some.injEq, reduceCtorEq, Nat.reduceLeDiff]
