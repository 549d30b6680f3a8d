/-! facts are read -/
def ENT (B : Nat → Nat) (n z D X u0 q bl h : Nat) (c m : Mem) (i sc im : Nat) : Prop := GC B n z D c i sc ∧ GM B n X m i im bl ∧ sc = u0 + im ∧ SR c m u0 X im bl 0 9 ∧ pileH (mI c 15) u0 (sc - u0) = some h ∧ bl ≤ i ∧ 2 * (sc + q) ≤ tP B n i
def KB (F : Nat) (B : Nat → Nat) (n z X op : Nat) (Q : Nat → Prop) : Option (Int32 × Mem) → Mem → Nat → Prop := fun r m' j => ∃ M', z + 2 ≤ M' + j ∧ r = f_X11_condition_b19 F 50 M' m' (nI X) (nI op) (0 : Int32) (1 : Int32) ∧ Q (tK B n j)
theorem BADS.pre {B : Nat → Nat} {n z X : Nat} {a b c m c' m' : Mem} (h : BADS B n z X c m c' m') (fb : frB a c) (fx : frX X b m) : BADS B n z X a b c' m' := ⟨fb.tr h.1, fx.w.tr h.2.1, h.2.2⟩
theorem STRS.pre {B : Nat → Nat} {n z D X q : Nat} {a b c m c' m' : Mem} {s t : Nat} (h : STRS B n z D X q c m c' m' t) (fc : FC D a c s) (fx : frX X b m) (hst : s ≤ t) : STRS B n z D X q a b c' m' s := by
  obtain ⟨h1, h2, j, sc', h3, h4⟩ := h
  exact ⟨fc.tr h1 hst, fx.tr h2, j, sc', by omega, h4⟩
theorem SR.lev {c m : Mem} {u0 X im bl pn a b : Nat} (h : SR c m u0 X im bl pn a) (hab : b ≤ a) : SR c m u0 X im bl pn b := ⟨h.1, fun j hj => by
  obtain ⟨v, v1, v2⟩ := h.2 j hj
  exact ⟨v, by omega, v2⟩⟩
theorem SR.z9 {c m : Mem} {u0 X im bl pn : Nat} (h : SR c m u0 X im bl pn 9) : pn = 0 := by
  refine Classical.byContradiction fun e => ?_
  obtain ⟨v, v1, v2, v3, -⟩ := h.2 0 (by omega)
  omega
/-- at a strange token every reader refuses -/
theorem st_comp (F : Nat) {B : Nat → Nat} {n z i : Nat} {c : Mem} (hz : z ≤ 801) (h : CT B n z c i) (hk : tK B n i = 21) : f_X6_readComparison F c 3 = some (0, sI c 3 2 1) := by
  have hC := h.1
  have eK := e_kindT F hz h
  have eSu := e_subj F c (tK_22 (B := B) (n := n) (i := i))
  rw [if_neg (by omega)] at eSu
  have b0 : bz (0 : Int32) := Or.inl rfl
  simp only [f_X6_readComparison, hC, eK, eSu, e_refuse F hC, b0, nx_eq, ck_true, br_true, br_false, bd_eq, de_eq, mN_sI_, mK_sI_, mL_sI_, mI_sI_ap, mJ_sI_, mR_sI_, mN_sJ_, mK_sJ_, mL_sJ_, mI_sJ_, mJ_sJ_ap, mR_sJ_, mN_sR_, mK_sR_, mL_sR_, mI_sR_, mJ_sR_, mR_sR_ap, Nat.reduceEqDiff, Nat.reduceAdd, ↓reduceIte, and_true, true_and, and_false, false_and, or_true, true_or, or_false, false_or, not_true_eq_false, not_false_eq_true, i10, i01, ii01, ii02, ii03, ii04, ii05, ii12, ii13, ii14, ii15, ii20, ii21, ii23, ii24, ii25, ii30, ii31, ii32, ii34, ii35, ii40, ii41, ii42, ii43, ii45, ii50, ii51, ii52, ii53, ii54, bi_z, Option.some.injEq, reduceCtorEq, Nat.reduceLeDiff]
theorem st_fact (F : Nat) (RA : Mem → Nat → Int32 → Option (Int32 × Mem)) {B : Nat → Nat} {n z i : Nat} {c : Mem} (hz : z ≤ 801) (h : CT B n z c i) (hk : tK B n i = 21) (p : Int32) : f_X6_readFact F RA c 3 p = some (0, sI c 3 2 1) := by
  have hC := h.1
  have e7 := e_sees F hz h (q := 7) (by decide)
  have e14 := e_sees F hz h (q := 14) (by decide)
  rw [bi_f (by omega)] at e7 e14
  have eC := st_comp F hz h hk
  have b0 : bz (0 : Int32) := Or.inl rfl
  simp only [Nat.reduceAdd] at e7 e14
  simp only [f_X6_readFact, f_X6_readFact_b22, f_X6_readFact_b47, f_X6_readFact_b66, hC, e7, e14, eC, b0, nx_eq, ck_true, br_true, br_false, bd_eq, de_eq, mN_sI_, mK_sI_, mL_sI_, mI_sI_ap, mJ_sI_, mR_sI_, mN_sJ_, mK_sJ_, mL_sJ_, mI_sJ_, mJ_sJ_ap, mR_sJ_, mN_sR_, mK_sR_, mL_sR_, mI_sR_, mJ_sR_, mR_sR_ap, Nat.reduceEqDiff, Nat.reduceAdd, ↓reduceIte, and_true, true_and, and_false, false_and, or_true, true_or, or_false, false_or, not_true_eq_false, not_false_eq_true, i10, i01, ii01, ii02, ii03, ii04, ii05, ii12, ii13, ii14, ii15, ii20, ii21, ii23, ii24, ii25, ii30, ii31, ii32, ii34, ii35, ii40, ii41, ii42, ii43, ii45, ii50, ii51, ii52, ii53, ii54, bi_z, Option.some.injEq, reduceCtorEq, Nat.reduceLeDiff]
theorem st_all (F : Nat) (RA : Mem → Nat → Int32 → Option (Int32 × Mem)) {B : Nat → Nat} {n z i : Nat} {c : Mem} (hz : z ≤ 801) (h : CT B n z c i) (hk : tK B n i = 21) (p : Int32) : f_X6_readAll F RA c 3 p = some (0, sI c 3 2 1) := by
  have hC := h.1
  simp only [f_X6_readAll, hC, st_fact F RA hz h hk, nx_eq, ck_true, br_true, br_false, bd_eq, de_eq, mN_sI_, mK_sI_, mL_sI_, mI_sI_ap, mJ_sI_, mR_sI_, mN_sJ_, mK_sJ_, mL_sJ_, mI_sJ_, mJ_sJ_ap, mR_sJ_, mN_sR_, mK_sR_, mL_sR_, mI_sR_, mJ_sR_, mR_sR_ap, Nat.reduceEqDiff, Nat.reduceAdd, ↓reduceIte, and_true, true_and, and_false, false_and, or_true, true_or, or_false, false_or, not_true_eq_false, not_false_eq_true, i10, i01, ii01, ii02, ii03, ii04, ii05, ii12, ii13, ii14, ii15, ii20, ii21, ii23, ii24, ii25, ii30, ii31, ii32, ii34, ii35, ii40, ii41, ii42, ii43, ii45, ii50, ii51, ii52, ii53, ii54, bi_z, Option.some.injEq, reduceCtorEq, Nat.reduceLeDiff]
theorem st_any (F : Nat) (RA : Mem → Nat → Int32 → Option (Int32 × Mem)) {B : Nat → Nat} {n z i : Nat} {c : Mem} (hz : z ≤ 801) (h : CT B n z c i) (hk : tK B n i = 21) (p : Int32) : f_X6_readAny F RA c 3 p = some (0, sI c 3 2 1) := by
  have hC := h.1
  simp only [f_X6_readAny, hC, st_all F RA hz h hk, nx_eq, ck_true, br_true, br_false, bd_eq, de_eq, mN_sI_, mK_sI_, mL_sI_, mI_sI_ap, mJ_sI_, mR_sI_, mN_sJ_, mK_sJ_, mL_sJ_, mI_sJ_, mJ_sJ_ap, mR_sJ_, mN_sR_, mK_sR_, mL_sR_, mI_sR_, mJ_sR_, mR_sR_ap, Nat.reduceEqDiff, Nat.reduceAdd, ↓reduceIte, and_true, true_and, and_false, false_and, or_true, true_or, or_false, false_or, not_true_eq_false, not_false_eq_true, i10, i01, ii01, ii02, ii03, ii04, ii05, ii12, ii13, ii14, ii15, ii20, ii21, ii23, ii24, ii25, ii30, ii31, ii32, ii34, ii35, ii40, ii41, ii42, ii43, ii45, ii50, ii51, ii52, ii53, ii54, bi_z, Option.some.injEq, reduceCtorEq, Nat.reduceLeDiff]
/-- what reading one level deeper gives -/
def HRA (F : Nat) (B : Nat → Nat) (n z D X u0 r : Nat) (RA : Mem → Nat → Int32 → Option (Int32 × Mem)) : Prop :=
  (∀ c i p, CT B n z c i → tK B n i = 21 → RA c 3 p = some (0, sI c 3 2 1)) ∧ ∀ q bl h c m i sc im M, ENT B n z D X u0 q bl h c m i sc im → h ≤ 2 * (r + 1) → (bl = 0 ∨ ∃ v, v < 6 ∧ mI m 84 (bl - 1) = nI v) → z + 2 ≤ M + i → OUT3 F B n z D X u0 q bl 6 h c m i sc (RA c 3 (nI (r + 1))) (f_X11_condition_b19 F 50 M m (nI X) (nI (r + 1)) (1 : Int32) (1 : Int32)) (KB F B n z X (r + 1) (fun k => ¬ k = 5 ∧ ¬ k = 6))
theorem L_in (F : Nat) (hF : 1000 ≤ F) {B : Nat → Nat} {n z D X u0 q bl h r i sc im M : Nat} {c m : Mem} (hz : TZ B n z) (hD : D < 6) (hX : X < 12) (hr : r ≤ 6) {RA : Mem → Nat → Int32 → Option (Int32 × Mem)} (hRA : r < 6 → HRA F B n z D X u0 r RA) (hE : ENT B n z D X u0 q bl h c m i sc im) (hh : h ≤ 2 * r + 2) (hM0 : z + 1 ≤ M + i) :
    OUT3 F B n z D X u0 q bl 9 h c m i sc (if tK B n i = 14 then f_X6_readRound F RA c 3 (nI r) else f_X6_readComparison F c 3) (f_X11_condition_b72 F (f_X11_condition_b19 F 50 M) 50 m (nI X) (nI r) (1 : Int32) (1 : Int32)) (KB F B n z X r (fun _ => True)) := by
  obtain ⟨hC, hM, hsc, hSR, hpl, hbl, hq⟩ := id hE
  have z8 : z ≤ 801 := hz.2.2.1
  have n8 : n ≤ 800 := hz.1
  have hi := hC.1.2.2.2.1
  by_cases k14 : tK B n i = 14
  · rw [if_pos k14]
    have hCs := hC.1.1
    have hMs := hM.1.1.1
    have b0 : bz (0 : Int32) := Or.inl rfl
    have b1 : bz (1 : Int32) := Or.inr rfl
    have eI := e_isS F hM.1 (q := 14) (by decide) (by decide) (w := 40) (by decide)
    rw [bi_t k14] at eI
    by_cases r6 : r = 6
    · have g1 : ¬ nI r < (6 : Int32) := nI_nlt (b := 6) (by omega) (by omega)
      have g2 : nI r = (6 : Int32) := by rw [r6]; rfl
      refine Or.inr (Or.inl ⟨sI c 3 2 2, _, ?_, ?_, bad_wrong (k := 2) hC.1 hM (frB.rf c) (frX.rf X m) (by decide) (by decide)⟩)
      · simp only [f_X6_readRound, g1, hCs, e_refuse F hCs, b0, nx_eq, ck_true, br_true, br_false, bd_eq, de_eq, mN_sI_, mK_sI_, mL_sI_, mI_sI_ap, mJ_sI_, mR_sI_, mN_sJ_, mK_sJ_, mL_sJ_, mI_sJ_, mJ_sJ_ap, mR_sJ_, mN_sR_, mK_sR_, mL_sR_, mI_sR_, mJ_sR_, mR_sR_ap, Nat.reduceEqDiff, Nat.reduceAdd, ↓reduceIte, and_true, true_and, and_false, false_and, or_true, true_or, or_false, false_or, not_true_eq_false, not_false_eq_true, i10, i01, ii01, ii02, ii03, ii04, ii05, ii12, ii13, ii14, ii15, ii20, ii21, ii23, ii24, ii25, ii30, ii31, ii32, ii34, ii35, ii40, ii41, ii42, ii43, ii45, ii50, ii51, ii52, ii53, ii54, bi_z, Option.some.injEq, reduceCtorEq, Nat.reduceLeDiff]
      · simp only [f_X11_condition_b72, hMs, eI, g2, e_wrongM F hMs hM.2.1, b0, nx_eq, ck_true, br_true, br_false, bd_eq, de_eq, mN_sI_, mK_sI_, mL_sI_, mI_sI_ap, mJ_sI_, mR_sI_, mN_sJ_, mK_sJ_, mL_sJ_, mI_sJ_, mJ_sJ_ap, mR_sJ_, mN_sR_, mK_sR_, mL_sR_, mI_sR_, mJ_sR_, mR_sR_ap, Nat.reduceEqDiff, Nat.reduceAdd, ↓reduceIte, and_true, true_and, and_false, false_and, or_true, true_or, or_false, false_or, not_true_eq_false, not_false_eq_true, i10, i01, ii01, ii02, ii03, ii04, ii05, ii12, ii13, ii14, ii15, ii20, ii21, ii23, ii24, ii25, ii30, ii31, ii32, ii34, ii35, ii40, ii41, ii42, ii43, ii45, ii50, ii51, ii52, ii53, ii54, bi_z, Option.some.injEq, reduceCtorEq, Nat.reduceLeDiff]
        rfl
    · have hr6 : r < 6 := by omega
      obtain ⟨hst, hra⟩ := hRA hr6
      have g1 : nI r < (6 : Int32) := nI_lt (b := 6) hr6 (by decide)
      have g2 : ¬ nI r = (6 : Int32) := fun e => absurd ((nI_eq (b := 6) (by omega) (by decide)).mp e) (by omega)
      obtain ⟨i1, p1, p2, -⟩ := hz.nxt hi (show ¬ tK B n i = 22 by omega)
      obtain ⟨eP, hT1⟩ := e_passT F z8 hC.1 i1
      have hC1 := hC.nx F z8 i1
      obtain ⟨c1, hc1⟩ : ∃ c1, sI c 4 4 (nI (i + 1)) = c1 := ⟨_, rfl⟩
      rw [hc1] at eP hT1 hC1
      have fc1 : FC D c c1 sc := by rw [← hc1]; exact FC.nx D c sc _
      have hC1s := hC1.1.1
      have v8 := vp_nI (show bl < 820 by omega) (show 820 < 2147483648 by decide)
      have n8' := nI_cl (show bl < 2147483648 by omega)
      obtain ⟨m1, hm1⟩ : ∃ m1, sI (sI m 84 bl 0) 50 49 (nI (bl + 1)) = m1 := ⟨_, rfl⟩
      have fx1 : frX X m m1 := by rw [← hm1]; exact frX.s84.tr (frX.s50 (by omega))
      have i50 : ∀ j, j ≠ 49 → mI m1 50 j = mI m 50 j := fun j hj => by rw [← hm1, mI_sI_j hj, mI_sI_o (by decide)]
      have i84 : mI m1 84 bl = nI 0 ∧ ∀ k, k ≠ bl → mI m1 84 k = mI m 84 k := by rw [← hm1]; exact ⟨by rw [mI_sI_o (by decide), mI_sI_e]; rfl, fun k hk => by rw [mI_sI_o (by decide), mI_sI_j hk]⟩
      have iO : ∀ x, x ≠ 50 → x ≠ 84 → mI m1 x = mI m x := fun x h1 h2 => by rw [← hm1, mI_sI_o h1, mI_sI_o h2]
      have hM1 : GM B n X m1 i im (bl + 1) := ⟨fx1.RT hM.1 (fun j _ _ => i50 j (by omega)), by rw [i50 41 (by decide)]; exact hM.2.1, by rw [← hm1, mI_sI_e], by rw [iO 81 (by decide) (by decide)]; exact hM.2.2.2⟩
      have hM1s := hM1.1.1.1
      have h49 := hM.2.2.1
      have rf1 : ∀ x, f_X11_take F m1 50 = x → f_X11_condition_b72 F (f_X11_condition_b19 F 50 M) 50 m (nI X) (nI r) (1 : Int32) (1 : Int32) = bd x (fun r48 σ49 => br (r48 = 0) (some ((0 : Int32), σ49)) (f_X11_condition_b19 F 50 M σ49 (nI X) (nI (r + 1)) (1 : Int32) (1 : Int32))) := by
        intro x ex
        have k50 : mK m1 50 = 11 := by simp only [hM1s]
        have a49 : ¬ (84 : Nat) = 50 := by decide
        simp only [f_X11_condition_b72, f_X11_condition_b294, hMs, eI, g2, h49, v8, n8', nI_1, hm1, ex, nx_eq, ck_true, br_true, br_false, bd_eq, de_eq, mN_sI_, mK_sI_, mL_sI_, mI_sI_ap, mJ_sI_, mR_sI_, mN_sJ_, mK_sJ_, mL_sJ_, mI_sJ_, mJ_sJ_ap, mR_sJ_, mN_sR_, mK_sR_, mL_sR_, mI_sR_, mJ_sR_, mR_sR_ap, Nat.reduceEqDiff, Nat.reduceAdd, ↓reduceIte, and_true, true_and, and_false, false_and, or_true, true_or, or_false, false_or, not_true_eq_false, not_false_eq_true, i10, i01, ii01, ii02, ii03, ii04, ii05, ii12, ii13, ii14, ii15, ii20, ii21, ii23, ii24, ii25, ii30, ii31, ii32, ii34, ii35, ii40, ii41, ii42, ii43, ii45, ii50, ii51, ii52, ii53, ii54, bi_z, Option.some.injEq, reduceCtorEq, Nat.reduceLeDiff]
      obtain ⟨t1, t2⟩ := hM1.take F hF
      by_cases d1 : tK B n (i + 1) = 21
      · obtain ⟨m', a1, a2, a3, a4⟩ := t2 d1
        refine Or.inr (Or.inl ⟨sI c1 3 2 1, m', ?_, by rw [rf1 _ a1, bd_eq, br_t1 rfl], bad_dead hT1 fc1.1 (fx1.tr a2) a3 a4⟩)
        simp only [f_X6_readRound, g1, hCs, eP, hC1s, hst c1 (i + 1) _ hT1 d1, nx_eq, ck_true, br_true, br_false, bd_eq, de_eq, mN_sI_, mK_sI_, mL_sI_, mI_sI_ap, mJ_sI_, mR_sI_, mN_sJ_, mK_sJ_, mL_sJ_, mI_sJ_, mJ_sJ_ap, mR_sJ_, mN_sR_, mK_sR_, mL_sR_, mI_sR_, mJ_sR_, mR_sR_ap, Nat.reduceEqDiff, Nat.reduceAdd, ↓reduceIte, and_true, true_and, and_false, false_and, or_true, true_or, or_false, false_or, not_true_eq_false, not_false_eq_true, i10, i01, ii01, ii02, ii03, ii04, ii05, ii12, ii13, ii14, ii15, ii20, ii21, ii23, ii24, ii25, ii30, ii31, ii32, ii34, ii35, ii40, ii41, ii42, ii43, ii45, ii50, ii51, ii52, ii53, ii54, bi_z, Option.some.injEq, reduceCtorEq, Nat.reduceLeDiff]
      · obtain ⟨m2, a1, hM2, fx2, o2⟩ := t1 d1
        have rf2 := rf1 _ a1
        rw [bd_eq, br_f1 (show ¬ (1 : Int32) = 0 by decide)] at rf2
        have fx2' := fx1.tr fx2
        have c1p : ∀ x, x ≠ 4 → mI c1 x = mI c x := fun x hx => by rw [← hc1, mI_sI_o hx]
        have hE2 : ENT B n z D X u0 q (bl + 1) h c1 m2 (i + 1) sc im := ⟨hC1, hM2, hsc, ⟨fun k hk => by rw [c1p 15 (by decide), c1p 16 (by decide), o2 82 (by decide), o2 83 (by decide), iO 82 (by decide) (by decide), iO 83 (by decide) (by decide)]; exact hSR.1 k hk, fun j hj => absurd hj (by omega)⟩, by rw [c1p 15 (by decide)]; exact hpl, by omega, by omega⟩
        have hout := hra q (bl + 1) h c1 m2 (i + 1) sc im M hE2 (by omega) (Or.inr ⟨0, by decide, by rw [o2 84 (by decide)]; exact i84.1⟩) (by omega)
        have e1 : nI r + 1 = nI (r + 1) := nI_1 r
        rcases hout with ⟨c2, m3, j, y1, ⟨M', y2, y3, y4⟩, w1, w2, w3, w4, sc', im', pn, w5, w6, w7, w8, w9, w10, w11, w12⟩ | ⟨c2, m3, y1, y2, y3⟩ | ⟨c2, m3, y1, y2, w1, w2, j, sc', w3, w4, w5, w6, w7, w8⟩
        · -- read on
          obtain ⟨M', rfl⟩ : ∃ x, M' = x + 1 := ⟨M' - 1, by have := w6.1.2.2.2.1; omega⟩
          have hC2s := w6.1.1
          have hM3s := w7.1.1.1
          have jz := w6.1.2.2.2.1
          have e5 := e_isW F w7.1 (q := 5) (by decide) (w := 6) rfl
          have e6 := e_isW F w7.1 (q := 6) (by decide) (w := 7) rfl
          rw [bi_f y4.1] at e5
          rw [bi_f y4.2] at e6
          have e15 := e_isS F w7.1 (q := 15) (by decide) (by decide) (w := 41) (by decide)
          have gr : ¬ nI (r + 1) ≤ 0 := nI_nle (by omega) (by omega)
          have n10 : ¬ (1 : Int32) = 0 := by decide
          have n84 : mI m3 84 bl = nI 0 := by rw [w3 bl (by omega), o2 84 (by decide)]; exact i84.1
          have fc2 : FC D c c2 sc := fc1.tr w1 (Nat.le_refl _)
          have fx3 : frX X m m3 := fx2'.tr w2
          by_cases d2 : tK B n j = 15
          · rw [bi_t d2] at e15
            obtain ⟨j1, p3, p4, -⟩ := hz.nxt jz (show ¬ tK B n j = 22 by omega)
            have eT := e_takeY F z8 w6.1 (q := 15) (by decide) d2 j1
            have eT' : f_X6_take F c2 3 (some 1000015) = some (1, sI c2 4 4 (nI (j + 1))) := eT
            have pnb : im' + pn < 800 := by omega
            obtain ⟨m4, l1, l2, l3, l4, l5, l6, l7⟩ := lp_leave F (c := c2) (q := 1) hX (by decide) (by decide) pn im' m3 F (by omega) hM3s w7.2.2.1 w7.2.2.2 pnb (by omega) w9 (Or.inr ⟨0, by decide, by rw [show bl + 1 - 1 = bl by omega]; exact n84⟩)
            have l1' : f_X11_leave F m3 50 (nI X) (1 : Int32) = some ((), m4) := l1
            obtain ⟨m5, hm5⟩ : ∃ m5, sI m4 50 49 (nI bl) = m5 := ⟨_, rfl⟩
            have fx5 : frX X m3 m5 := by rw [← hm5]; exact l2.tr (frX.s50 (by omega))
            have hM4s : shM m4 := hM3s.cg l2.1 l2.2.1 l2.2.2.1
            have i505 : ∀ t, t ≠ 49 → mI m5 50 t = mI m3 50 t := fun t ht => by rw [← hm5, mI_sI_j ht, l5 t ht]
            have iO5 : ∀ x, x ≠ 50 → mI m5 x = mI m4 x := fun x hx => by rw [← hm5, mI_sI_o hx]
            have hM5 : GM B n X m5 j (im' + pn) bl := ⟨fx5.RT w7.1 (fun t _ _ => i505 t (by omega)), by rw [i505 41 (by decide)]; exact w7.2.1, by rw [← hm5, mI_sI_e], by rw [iO5 81 (by decide)]; exact l6⟩
            have hM5s := hM5.1.1.1
            have hC3 := w6.nx F z8 j1
            have fc3 : FC D c (sI c2 4 4 (nI (j + 1))) sc := fc2.tr (FC.nx D c2 sc _) (Nat.le_refl _)
            have clas : f_X6_readRound F RA c 3 (nI r) = some (1, sI c2 4 4 (nI (j + 1))) := by
              simp only [f_X6_readRound, g1, hCs, eP, hC1s, e1, y1, hC2s, eT', nx_eq, ck_true, br_true, br_false, bd_eq, de_eq, mN_sI_, mK_sI_, mL_sI_, mI_sI_ap, mJ_sI_, mR_sI_, mN_sJ_, mK_sJ_, mL_sJ_, mI_sJ_, mJ_sJ_ap, mR_sJ_, mN_sR_, mK_sR_, mL_sR_, mI_sR_, mJ_sR_, mR_sR_ap, Nat.reduceEqDiff, Nat.reduceAdd, ↓reduceIte, and_true, true_and, and_false, false_and, or_true, true_or, or_false, false_or, not_true_eq_false, not_false_eq_true, i10, i01, ii01, ii02, ii03, ii04, ii05, ii12, ii13, ii14, ii15, ii20, ii21, ii23, ii24, ii25, ii30, ii31, ii32, ii34, ii35, ii40, ii41, ii42, ii43, ii45, ii50, ii51, ii52, ii53, ii54, bi_z, Option.some.injEq, reduceCtorEq, Nat.reduceLeDiff]
            have rf3 : ∀ x, f_X11_take F m5 50 = x → f_X11_condition_b72 F (f_X11_condition_b19 F 50 M) 50 m (nI X) (nI r) (1 : Int32) (1 : Int32) = bd x (fun r33 σ34 => br (r33 = 0) (some ((0 : Int32), σ34)) (f_X11_condition_b19 F 50 M' σ34 (nI X) (nI r) (0 : Int32) (1 : Int32))) := by
              intro x ex
              rw [rf2, y3]
              have e9 : nI (bl + 1) - (1 : Int32) = nI bl := nI_pred bl
              have e10 : nI (r + 1) + (-1 : Int32) = nI r := pk_m1 r
              have k50 : mK m5 50 = 11 := by simp only [hM5s]
              show f_X11_condition_b19_it F (f_X11_condition_b19 F 50 M') 50 m3 (nI X) (nI (r + 1)) (0 : Int32) (1 : Int32) = _
              simp only [f_X11_condition_b19_it, hM3s, e5, e6, gr, e15, l1', hM4s, l4, e9, hm5, e10, k50, ex, nx_eq, ck_true, br_true, br_false, bd_eq, de_eq, mN_sI_, mK_sI_, mL_sI_, mI_sI_ap, mJ_sI_, mR_sI_, mN_sJ_, mK_sJ_, mL_sJ_, mI_sJ_, mJ_sJ_ap, mR_sJ_, mN_sR_, mK_sR_, mL_sR_, mI_sR_, mJ_sR_, mR_sR_ap, Nat.reduceEqDiff, Nat.reduceAdd, ↓reduceIte, and_true, true_and, and_false, false_and, or_true, true_or, or_false, false_or, not_true_eq_false, not_false_eq_true, i10, i01, ii01, ii02, ii03, ii04, ii05, ii12, ii13, ii14, ii15, ii20, ii21, ii23, ii24, ii25, ii30, ii31, ii32, ii34, ii35, ii40, ii41, ii42, ii43, ii45, ii50, ii51, ii52, ii53, ii54, bi_z, Option.some.injEq, reduceCtorEq, Nat.reduceLeDiff]
            obtain ⟨t3, t4⟩ := hM5.take F hF
            by_cases d3 : tK B n (j + 1) = 21
            · obtain ⟨m', a3, a4, a5, a6⟩ := t4 d3
              exact Or.inr (Or.inr ⟨_, m', clas, by rw [rf3 _ a3, bd_eq, br_t1 rfl], fc3, (fx3.tr fx5).tr a4, j + 1, sc', w5, hC3, d3, by omega, a5, a6⟩)
            · obtain ⟨m6, a3, hM6, fx6, o6⟩ := t3 d3
              have c15 : ∀ k, mI (sI c2 4 4 (nI (j + 1))) 15 k = mI c2 15 k ∧ mI (sI c2 4 4 (nI (j + 1))) 16 k = mI c2 16 k := fun k => ⟨by rw [mI_sI_o (by decide)], by rw [mI_sI_o (by decide)]⟩
              refine Or.inl ⟨_, m6, j + 1, clas, ⟨M', by omega, by rw [rf3 _ a3, bd_eq, br_f1 (by decide)], trivial⟩, fc3, (fx3.tr fx5).tr fx6, fun k hk => ?_, by omega, sc', im' + pn, 0, w5, hC3, hM6, by omega, ⟨fun k hk => ?_, fun t ht => absurd ht (by omega)⟩, ?_, by omega, by omega⟩
              · rw [o6 84 (by decide), iO5 84 (by decide), l3, w3 k (by omega), o2 84 (by decide), i84.2 k (by omega)]
              · rw [(c15 _).1, (c15 _).2, o6 82 (by decide), o6 83 (by decide), iO5 82 (by decide), iO5 83 (by decide)]
                exact l7.1 k hk
              · rw [show mI (sI c2 4 4 (nI (j + 1))) 15 = mI c2 15 from mI_sI_o (by decide)]
                exact w10
          · rw [bi_f d2] at e15
            have eT := e_takeN F z8 w6.1 (q := 15) (by decide) d2
            have eT' : f_X6_take F c2 3 (some 1000015) = some (0, sI c2 3 2 1) := eT
            refine Or.inr (Or.inl ⟨_, _, ?_, ?_, bad_wrong (k := 1) w6.1 w7 fc2.1 fx3 (by decide) (by decide)⟩)
            · simp only [f_X6_readRound, g1, hCs, eP, hC1s, e1, y1, hC2s, eT', nx_eq, ck_true, br_true, br_false, bd_eq, de_eq, mN_sI_, mK_sI_, mL_sI_, mI_sI_ap, mJ_sI_, mR_sI_, mN_sJ_, mK_sJ_, mL_sJ_, mI_sJ_, mJ_sJ_ap, mR_sJ_, mN_sR_, mK_sR_, mL_sR_, mI_sR_, mJ_sR_, mR_sR_ap, Nat.reduceEqDiff, Nat.reduceAdd, ↓reduceIte, and_true, true_and, and_false, false_and, or_true, true_or, or_false, false_or, not_true_eq_false, not_false_eq_true, i10, i01, ii01, ii02, ii03, ii04, ii05, ii12, ii13, ii14, ii15, ii20, ii21, ii23, ii24, ii25, ii30, ii31, ii32, ii34, ii35, ii40, ii41, ii42, ii43, ii45, ii50, ii51, ii52, ii53, ii54, bi_z, Option.some.injEq, reduceCtorEq, Nat.reduceLeDiff]
              rfl
            · rw [rf2, y3]
              show f_X11_condition_b19_it F (f_X11_condition_b19 F 50 M') 50 m3 (nI X) (nI (r + 1)) (0 : Int32) (1 : Int32) = _
              simp only [f_X11_condition_b19_it, f_X11_condition_b402, hM3s, e5, e6, gr, e15, e_wrongM F hM3s w7.2.1, b0, nx_eq, ck_true, br_true, br_false, bd_eq, de_eq, mN_sI_, mK_sI_, mL_sI_, mI_sI_ap, mJ_sI_, mR_sI_, mN_sJ_, mK_sJ_, mL_sJ_, mI_sJ_, mJ_sJ_ap, mR_sJ_, mN_sR_, mK_sR_, mL_sR_, mI_sR_, mJ_sR_, mR_sR_ap, Nat.reduceEqDiff, Nat.reduceAdd, ↓reduceIte, and_true, true_and, and_false, false_and, or_true, true_or, or_false, false_or, not_true_eq_false, not_false_eq_true, i10, i01, ii01, ii02, ii03, ii04, ii05, ii12, ii13, ii14, ii15, ii20, ii21, ii23, ii24, ii25, ii30, ii31, ii32, ii34, ii35, ii40, ii41, ii42, ii43, ii45, ii50, ii51, ii52, ii53, ii54, bi_z, Option.some.injEq, reduceCtorEq, Nat.reduceLeDiff]
              rfl
        · refine Or.inr (Or.inl ⟨c2, m3, ?_, by rw [rf2]; exact y2, y3.pre fc1.1 fx2'⟩)
          simp only [f_X6_readRound, g1, hCs, eP, hC1s, e1, y1, nx_eq, ck_true, br_true, br_false, bd_eq, de_eq, mN_sI_, mK_sI_, mL_sI_, mI_sI_ap, mJ_sI_, mR_sI_, mN_sJ_, mK_sJ_, mL_sJ_, mI_sJ_, mJ_sJ_ap, mR_sJ_, mN_sR_, mK_sR_, mL_sR_, mI_sR_, mJ_sR_, mR_sR_ap, Nat.reduceEqDiff, Nat.reduceAdd, ↓reduceIte, and_true, true_and, and_false, false_and, or_true, true_or, or_false, false_or, not_true_eq_false, not_false_eq_true, i10, i01, ii01, ii02, ii03, ii04, ii05, ii12, ii13, ii14, ii15, ii20, ii21, ii23, ii24, ii25, ii30, ii31, ii32, ii34, ii35, ii40, ii41, ii42, ii43, ii45, ii50, ii51, ii52, ii53, ii54, bi_z, Option.some.injEq, reduceCtorEq, Nat.reduceLeDiff]
        · have hC2s := w4.1.1
          have eT := e_takeN F z8 w4.1 (q := 15) (by decide) (by omega)
          have eT' : f_X6_take F c2 3 (some 1000015) = some (0, sI c2 3 2 1) := eT
          refine Or.inr (Or.inl ⟨sI c2 3 2 1, m3, ?_, by rw [rf2]; exact y2, bad_dead w4.1 (fc1.1.tr w1.1) (fx2'.tr w2) w7 w8⟩)
          simp only [f_X6_readRound, g1, hCs, eP, hC1s, e1, y1, hC2s, eT', nx_eq, ck_true, br_true, br_false, bd_eq, de_eq, mN_sI_, mK_sI_, mL_sI_, mI_sI_ap, mJ_sI_, mR_sI_, mN_sJ_, mK_sJ_, mL_sJ_, mI_sJ_, mJ_sJ_ap, mR_sJ_, mN_sR_, mK_sR_, mL_sR_, mI_sR_, mJ_sR_, mR_sR_ap, Nat.reduceEqDiff, Nat.reduceAdd, ↓reduceIte, and_true, true_and, and_false, false_and, or_true, true_or, or_false, false_or, not_true_eq_false, not_false_eq_true, i10, i01, ii01, ii02, ii03, ii04, ii05, ii12, ii13, ii14, ii15, ii20, ii21, ii23, ii24, ii25, ii30, ii31, ii32, ii34, ii35, ii40, ii41, ii42, ii43, ii45, ii50, ii51, ii52, ii53, ii54, bi_z, Option.some.injEq, reduceCtorEq, Nat.reduceLeDiff]
  · rw [if_neg k14]
    rcases L_comp F hF hz hD hX hC hM hsc hSR hpl (by omega) hbl hq k14 (f_X11_condition_b19 F 50 M) (nI r) (1 : Int32) (1 : Int32) with ⟨c', m', j, y1, y2, y3⟩ | y | y
    · exact Or.inl ⟨c', m', j, y1, ⟨M, by have := y3.2.2.2.1; omega, y2, trivial⟩, y3⟩
    · exact Or.inr (Or.inl y)
    · exact Or.inr (Or.inr y)
