/-! a comparison is read -/
theorem pileH_ext {w w' : Nat → Int32} {u : Nat} : ∀ n, (∀ k, k < n → w (u + k) = w' (u + k)) → pileH w u n = pileH w' u n := by
  intro n
  induction n with
  | zero => intro _; rfl
  | succ n ih =>
    intro h
    have e := ih (fun k hk => h k (by omega))
    have e2 := h n (by omega)
    cases q : pileH w' u n with
    | none =>
      rw [q] at e
      have a : pileH w u (n + 1) = none := by
        show (match pileH w u n with
          | none => none
          | some h => if w (u + n) = 12 then (if 1 ≤ h then some h else none) else if w (u + n) = 13 ∨ w (u + n) = 14 then (if 2 ≤ h then some (h - 1) else none) else if h < 20 then some (h + 1) else none) = none
        rw [e]
      have b : pileH w' u (n + 1) = none := by
        show (match pileH w' u n with
          | none => none
          | some h => if w' (u + n) = 12 then (if 1 ≤ h then some h else none) else if w' (u + n) = 13 ∨ w' (u + n) = 14 then (if 2 ≤ h then some (h - 1) else none) else if h < 20 then some (h + 1) else none) = none
        rw [q]
      rw [a, b]
    | some x =>
      rw [q] at e
      rw [pileH_st e, pileH_st q, e2]
def OUT3 (F : Nat) (B : Nat → Nat) (n z D X u0 q bl lev h : Nat) (c m : Mem) (i sc : Nat) (cl rf : Option (Int32 × Mem)) (K : Option (Int32 × Mem) → Mem → Nat → Prop) : Prop :=
  (∃ c' m' j, cl = some (1, c') ∧ K rf m' j ∧ OKS B n z D X u0 q bl lev h c m c' m' i sc j) ∨ (∃ c' m', cl = some (0, c') ∧ rf = some (0, m') ∧ BADS B n z X c m c' m') ∨ ∃ c' m', cl = some (1, c') ∧ rf = some (0, m') ∧ STRS B n z D X q c m c' m' sc
theorem L_comp (F : Nat) (hF : 1000 ≤ F) {B : Nat → Nat} {n z D X u0 q bl lev h i sc im : Nat} {c m : Mem} (hz : TZ B n z) (hD : D < 6) (hX : X < 12) (hC : GC B n z D c i sc) (hM : GM B n X m i im bl) (hsc : sc = u0 + im) (hSR : SR c m u0 X im bl 0 lev) (hpl : pileH (mI c 15) u0 (sc - u0) = some h) (hh : h < 20) (hbl : bl ≤ i) (hq : 2 * (sc + q) ≤ tP B n i) (hk : ¬ tK B n i = 14) (K : Mem → Int32 → Int32 → Int32 → Int32 → Option (Int32 × Mem)) (op v3 v4 : Int32) :
    OUT3 F B n z D X u0 q bl lev h c m i sc (f_X6_readComparison F c 3) (f_X11_condition_b72 F K 50 m (nI X) op v3 v4) (fun r m' _ => r = K m' (nI X) op 0 v4) := by
  have z8 : z ≤ 801 := hz.2.2.1
  have n8 : n ≤ 800 := hz.1
  have hCs := hC.1.1
  have hi := hC.1.2.2.2.1
  have hMs := hM.1.1.1
  have b0 : bz (0 : Int32) := Or.inl rfl
  have b1 : bz (1 : Int32) := Or.inr rfl
  have k21 := hM.1.2.2.2
  have kk := hM.1.k0
  have eI := e_isS F hM.1 (q := 14) (by decide) (by decide) (w := 40) (by decide)
  rw [bi_f hk] at eI
  have eK := e_kindT F z8 hC.1
  have eSu := e_subj F c (tK_22 (B := B) (n := n) (i := i))
  have tkd := hM.1.2.2.1
  by_cases s8 : 8 ≤ tK B n i ∧ tK B n i ≤ 11
  · rw [if_pos s8] at eSu
    have k22 : ¬ tK B n i = 22 := by omega
    obtain ⟨i1, p1, p2, p3⟩ := hz.nxt hi k22
    have p3 := p3 (by omega)
    have w46 : mI m 50 46 = nI (tK B n i + 1) := (tkd.2.2.2.1 (by omega)).2
    have l9 : ((9 : Int32) ≤ nI (tK B n i + 1)) = True := eq_true (nI_le (a := 9) (by omega) (by omega))
    have k45 : (mI m 50 45 = 1) = True := by rw [kk.2.1]; exact eq_true (by omega)
    have sn : ¬ nI (tK B n i - 8) = (-1 : Int32) := fun e => absurd (nI_pos (n := tK B n i - 8) (by omega)) (by rw [e]; decide)
    obtain ⟨eP, hT1⟩ := e_passT F z8 hC.1 i1
    have hC1 := hC.nx F z8 i1
    obtain ⟨c1, hc1⟩ : ∃ c1, sI c 4 4 (nI (i + 1)) = c1 := ⟨_, rfl⟩
    rw [hc1] at eP hT1 hC1
    have fc1 : FC D c c1 sc := by rw [← hc1]; exact FC.nx D c sc _
    have hC1s := hC1.1.1
    have eK1 := e_kindT F z8 hC1.1
    have eR := e_rela F c1 (tK_22 (B := B) (n := n) (i := i + 1))
    obtain ⟨t1, t2⟩ := hM.take F hF
    by_cases d1 : tK B n (i + 1) = 21
    · obtain ⟨m', a1, a2, a3, a4⟩ := t2 d1
      rw [if_neg (by omega)] at eR
      refine Or.inr (Or.inl ⟨sI c1 3 2 1, m', ?_, ?_, bad_dead hT1 fc1.1 a2 a3 a4⟩)
      · simp only [f_X6_readComparison, hCs, eK, eSu, sn, eP, hC1s, eK1, eR, e_refuse F hC1s, b0, nx_eq, ck_true, br_true, br_false, bd_eq, de_eq, mN_sI_, mK_sI_, mL_sI_, mI_sI_ap, mJ_sI_, mR_sI_, mN_sJ_, mK_sJ_, mL_sJ_, mI_sJ_, mJ_sJ_ap, mR_sJ_, mN_sR_, mK_sR_, mL_sR_, mI_sR_, mJ_sR_, mR_sR_ap, Nat.reduceEqDiff, Nat.reduceAdd, ↓reduceIte, and_true, true_and, and_false, false_and, or_true, true_or, or_false, false_or, not_true_eq_false, not_false_eq_true, i10, i01, ii01, ii02, ii03, ii04, ii05, ii12, ii13, ii14, ii15, ii20, ii21, ii23, ii24, ii25, ii30, ii31, ii32, ii34, ii35, ii40, ii41, ii42, ii43, ii45, ii50, ii51, ii52, ii53, ii54, bi_z, Option.some.injEq, reduceCtorEq, Nat.reduceLeDiff]
      · simp only [f_X11_condition_b72, hMs, eI, k45, w46, l9, a1, nx_eq, ck_true, br_true, br_false, bd_eq, de_eq, mN_sI_, mK_sI_, mL_sI_, mI_sI_ap, mJ_sI_, mR_sI_, mN_sJ_, mK_sJ_, mL_sJ_, mI_sJ_, mJ_sJ_ap, mR_sJ_, mN_sR_, mK_sR_, mL_sR_, mI_sR_, mJ_sR_, mR_sR_ap, Nat.reduceEqDiff, Nat.reduceAdd, ↓reduceIte, and_true, true_and, and_false, false_and, or_true, true_or, or_false, false_or, not_true_eq_false, not_false_eq_true, i10, i01, ii01, ii02, ii03, ii04, ii05, ii12, ii13, ii14, ii15, ii20, ii21, ii23, ii24, ii25, ii30, ii31, ii32, ii34, ii35, ii40, ii41, ii42, ii43, ii45, ii50, ii51, ii52, ii53, ii54, bi_z, Option.some.injEq, reduceCtorEq, Nat.reduceLeDiff]
    · obtain ⟨m1, a1, hM1, fx1, o1⟩ := t1 d1
      have hM1s := hM1.1.1.1
      have kk1 := hM1.1.k0
      have eI60 := e_isS F hM1.1 (q := 17) (by decide) (by decide) (w := 60) (by decide)
      have eI62 := e_isS F hM1.1 (q := 18) (by decide) (by decide) (w := 62) (by decide)
      have eI61 := e_isS F hM1.1 (q := 19) (by decide) (by decide) (w := 61) (by decide)
      by_cases r3 : 17 ≤ tK B n (i + 1) ∧ tK B n (i + 1) ≤ 19
      · rw [if_pos r3] at eR
        have k22' : ¬ tK B n (i + 1) = 22 := by omega
        obtain ⟨i2, p4, p5, -⟩ := hz.nxt i1 k22'
        have rn : ¬ nI (tK B n (i + 1) - 17) = (-1 : Int32) := fun e => absurd (nI_pos (n := tK B n (i + 1) - 17) (by omega)) (by rw [e]; decide)
        obtain ⟨eP2, hT2⟩ := e_passT F z8 hC1.1 i2
        have hC2 := hC1.nx F z8 i2
        obtain ⟨c2, hc2⟩ : ∃ c2, sI c1 4 4 (nI (i + 1 + 1)) = c2 := ⟨_, rfl⟩
        rw [hc2] at eP2 hT2 hC2
        have fc2 : FC D c c2 sc := by rw [← hc2]; exact fc1.tr (FC.nx D c1 sc _) (Nat.le_refl _)
        have hC2s := hC2.1.1
        have eV := e_valueT F z8 hC2.1
        have s400 : sc < 400 := by omega
        have est : nI (tK B n i - 8) * (3 : Int32) + nI (tK B n (i + 1) - 17) = nI (3 * (tK B n i - 8) + (tK B n (i + 1) - 17)) := by
          rw [show (3 : Int32) = nI 3 from rfl, pk_mul, nI_add, Nat.mul_comm]
        have eA := e_addStep F hC2s hC2.2.2.1 hC2.2.1 hD s400 (nI (3 * (tK B n i - 8) + (tK B n (i + 1) - 17))) (nI (tV B n (i + 1 + 1)))
        have hC3 := hC2.ad (nI (3 * (tK B n i - 8) + (tK B n (i + 1) - 17))) (nI (tV B n (i + 1 + 1)))
        have fc3' := FC.ad D c2 sc (nI (3 * (tK B n i - 8) + (tK B n (i + 1) - 17))) (nI (tV B n (i + 1 + 1)))
        have a15 := adS_15 c2 D sc (nI (3 * (tK B n i - 8) + (tK B n (i + 1) - 17))) (nI (tV B n (i + 1 + 1)))
        obtain ⟨c3, hc3⟩ : ∃ c3, adS c2 D sc (nI (3 * (tK B n i - 8) + (tK B n (i + 1) - 17))) (nI (tV B n (i + 1 + 1))) = c3 := ⟨_, rfl⟩
        rw [hc3] at eA hC3 fc3' a15
        have fc3 : FC D c c3 sc := fc2.tr fc3' (Nat.le_refl _)
        have hC3s := hC3.1.1
        have clas : ∀ r cc, f_X6_take F c3 3 (some 1000020) = some (r, cc) → bz r → f_X6_readComparison F c 3 = some (r, cc) := by
          intro r cc e br
          simp only [f_X6_readComparison, hCs, eK, eSu, sn, eP, hC1s, eK1, eR, rn, eP2, hC2s, eV, est, eA, hC3s, e, br, nx_eq, ck_true, br_true, br_false, bd_eq, de_eq, mN_sI_, mK_sI_, mL_sI_, mI_sI_ap, mJ_sI_, mR_sI_, mN_sJ_, mK_sJ_, mL_sJ_, mI_sJ_, mJ_sJ_ap, mR_sJ_, mN_sR_, mK_sR_, mL_sR_, mI_sR_, mJ_sR_, mR_sR_ap, Nat.reduceEqDiff, Nat.reduceAdd, ↓reduceIte, and_true, true_and, and_false, false_and, or_true, true_or, or_false, false_or, not_true_eq_false, not_false_eq_true, i10, i01, ii01, ii02, ii03, ii04, ii05, ii12, ii13, ii14, ii15, ii20, ii21, ii23, ii24, ii25, ii30, ii31, ii32, ii34, ii35, ii40, ii41, ii42, ii43, ii45, ii50, ii51, ii52, ii53, ii54, bi_z, Option.some.injEq, reduceCtorEq, Nat.reduceLeDiff]
        have x46 : mI m1 50 46 = nI (tC (tK B n (i + 1)) 0) := (hM1.1.2.2.1.2.2.2.2.2 (by omega) (by omega)).2
        have rfs : f_X11_condition_b72 F K 50 m (nI X) op v3 v4 = f_X11_condition_b212 F K 50 m1 (nI X) op v4 (nI (tK B n i + 1)) := by
          rcases (show tK B n (i + 1) = 17 ∨ tK B n (i + 1) = 18 ∨ tK B n (i + 1) = 19 by omega) with y | y | y
          · rw [bi_t y] at eI60
            simp only [f_X11_condition_b72, hMs, eI, k45, w46, l9, a1, hM1s, eI60, nx_eq, ck_true, br_true, br_false, bd_eq, de_eq, mN_sI_, mK_sI_, mL_sI_, mI_sI_ap, mJ_sI_, mR_sI_, mN_sJ_, mK_sJ_, mL_sJ_, mI_sJ_, mJ_sJ_ap, mR_sJ_, mN_sR_, mK_sR_, mL_sR_, mI_sR_, mJ_sR_, mR_sR_ap, Nat.reduceEqDiff, Nat.reduceAdd, ↓reduceIte, and_true, true_and, and_false, false_and, or_true, true_or, or_false, false_or, not_true_eq_false, not_false_eq_true, i10, i01, ii01, ii02, ii03, ii04, ii05, ii12, ii13, ii14, ii15, ii20, ii21, ii23, ii24, ii25, ii30, ii31, ii32, ii34, ii35, ii40, ii41, ii42, ii43, ii45, ii50, ii51, ii52, ii53, ii54, bi_z, Option.some.injEq, reduceCtorEq, Nat.reduceLeDiff]
          · rw [bi_f (by omega)] at eI60
            rw [bi_t y] at eI62
            simp only [f_X11_condition_b72, hMs, eI, k45, w46, l9, a1, hM1s, eI60, eI62, nx_eq, ck_true, br_true, br_false, bd_eq, de_eq, mN_sI_, mK_sI_, mL_sI_, mI_sI_ap, mJ_sI_, mR_sI_, mN_sJ_, mK_sJ_, mL_sJ_, mI_sJ_, mJ_sJ_ap, mR_sJ_, mN_sR_, mK_sR_, mL_sR_, mI_sR_, mJ_sR_, mR_sR_ap, Nat.reduceEqDiff, Nat.reduceAdd, ↓reduceIte, and_true, true_and, and_false, false_and, or_true, true_or, or_false, false_or, not_true_eq_false, not_false_eq_true, i10, i01, ii01, ii02, ii03, ii04, ii05, ii12, ii13, ii14, ii15, ii20, ii21, ii23, ii24, ii25, ii30, ii31, ii32, ii34, ii35, ii40, ii41, ii42, ii43, ii45, ii50, ii51, ii52, ii53, ii54, bi_z, Option.some.injEq, reduceCtorEq, Nat.reduceLeDiff]
          · rw [bi_f (by omega)] at eI60 eI62
            rw [bi_t y] at eI61
            simp only [f_X11_condition_b72, hMs, eI, k45, w46, l9, a1, hM1s, eI60, eI62, eI61, nx_eq, ck_true, br_true, br_false, bd_eq, de_eq, mN_sI_, mK_sI_, mL_sI_, mI_sI_ap, mJ_sI_, mR_sI_, mN_sJ_, mK_sJ_, mL_sJ_, mI_sJ_, mJ_sJ_ap, mR_sJ_, mN_sR_, mK_sR_, mL_sR_, mI_sR_, mJ_sR_, mR_sR_ap, Nat.reduceEqDiff, Nat.reduceAdd, ↓reduceIte, and_true, true_and, and_false, false_and, or_true, true_or, or_false, false_or, not_true_eq_false, not_false_eq_true, i10, i01, ii01, ii02, ii03, ii04, ii05, ii12, ii13, ii14, ii15, ii20, ii21, ii23, ii24, ii25, ii30, ii31, ii32, ii34, ii35, ii40, ii41, ii42, ii43, ii45, ii50, ii51, ii52, ii53, ii54, bi_z, Option.some.injEq, reduceCtorEq, Nat.reduceLeDiff]
        obtain ⟨t3, t4⟩ := hM1.take F hF
        by_cases d2 : tK B n (i + 1 + 1) = 21
        · obtain ⟨m', a2, a3, a4, a5⟩ := t4 d2
          have eT := e_takeN F z8 hC3.1 (q := 20) (by decide) (by omega)
          refine Or.inr (Or.inl ⟨sI c3 3 2 1, m', clas 0 _ eT b0, ?_, bad_dead hC3.1 fc3.1 (fx1.tr a3) a4 a5⟩)
          rw [rfs]
          simp only [f_X11_condition_b212, hM1s, a2, nx_eq, ck_true, br_true, br_false, bd_eq, de_eq, mN_sI_, mK_sI_, mL_sI_, mI_sI_ap, mJ_sI_, mR_sI_, mN_sJ_, mK_sJ_, mL_sJ_, mI_sJ_, mJ_sJ_ap, mR_sJ_, mN_sR_, mK_sR_, mL_sR_, mI_sR_, mJ_sR_, mR_sR_ap, Nat.reduceEqDiff, Nat.reduceAdd, ↓reduceIte, and_true, true_and, and_false, false_and, or_true, true_or, or_false, false_or, not_true_eq_false, not_false_eq_true, i10, i01, ii01, ii02, ii03, ii04, ii05, ii12, ii13, ii14, ii15, ii20, ii21, ii23, ii24, ii25, ii30, ii31, ii32, ii34, ii35, ii40, ii41, ii42, ii43, ii45, ii50, ii51, ii52, ii53, ii54, bi_z, Option.some.injEq, reduceCtorEq, Nat.reduceLeDiff]
        · obtain ⟨m2, a2, hM2, fx2, o2⟩ := t3 d2
          have hM2s := hM2.1.1.1
          have kk2 := hM2.1.k0
          by_cases d3 : tK B n (i + 1 + 1) = 20
          · obtain ⟨i3, p6, p7, -⟩ := hz.nxt i2 (show ¬ tK B n (i + 1 + 1) = 22 by omega)
            have eT := e_takeY F z8 hC3.1 (q := 20) (by decide) d3 i3
            have k2t : (mI m2 50 45 = 2) = True := by rw [kk2.2.2.1]; exact eq_true d3
            have v46 : mI m2 50 46 = nI (tV B n (i + 1 + 1)) := (hM2.1.2.2.1.2.2.2.2.1 d3).2
            have im8 : im < 800 := by omega
            have eE := e_emit F hM2s hX im8 hM2.2.2.2 (nI (16 * (9 + (tK B n i - 8)) + (tK B n (i + 1) - 17))) (nI (tV B n (i + 1 + 1)))
            have e16 : (16 : Int32) * nI (tK B n i + 1) = nI (16 * (tK B n i + 1)) := pk_mul 16 _
            obtain ⟨m3, hm3⟩ : ∃ m3, sI (sI (sI m2 82 (800 * X + im) (nI (16 * (9 + (tK B n i - 8)) + (tK B n (i + 1) - 17)))) 83 (800 * X + im) (nI (tV B n (i + 1 + 1)))) 81 X (nI (im + 1)) = m3 := ⟨_, rfl⟩
            rw [hm3] at eE
            have fx3' : frX X m2 m3 := by rw [← hm3]; exact frX.em im8
            have i50 : mI m3 50 = mI m2 50 := by rw [← hm3, mI_sI_o (by decide), mI_sI_o (by decide), mI_sI_o (by decide)]
            have i84 : mI m3 84 = mI m2 84 := by rw [← hm3, mI_sI_o (by decide), mI_sI_o (by decide), mI_sI_o (by decide)]
            have hM3 : GM B n X m3 (i + 1 + 1) (im + 1) bl := ⟨fx3'.RT hM2.1 (fun j _ _ => by rw [i50]), by rw [i50]; exact hM2.2.1, by rw [i50]; exact hM2.2.2.1, by rw [← hm3, mI_sI_e]⟩
            have hM3s := hM3.1.1.1
            have rfs2 : ∀ r, f_X11_take F m3 50 = r → f_X11_condition_b72 F K 50 m (nI X) op v3 v4 = bd r (fun r9 σ10 => br (r9 = 0) (some ((0 : Int32), σ10)) (K σ10 (nI X) op 0 v4)) := by
              intro r er
              rw [rfs]
              rcases (show tK B n (i + 1) = 17 ∨ tK B n (i + 1) = 18 ∨ tK B n (i + 1) = 19 by omega) with y | y | y
              · rw [y] at eE x46
                have x46' : mI m1 50 46 = (60 : Int32) := x46.trans (by decide)
                have ev : nI (16 * (tK B n i + 1)) + (0 : Int32) = nI (16 * (9 + (tK B n i - 8)) + (17 - 17)) := by rw [Int32.add_zero]; exact congrArg nI (by omega)
                simp only [f_X11_condition_b212, f_X11_condition_b275, f_X11_condition_b294, hM1s, x46', a2, hM2s, k2t, e16, ev, v46, eE, hM3s, er, nx_eq, ck_true, br_true, br_false, bd_eq, de_eq, mN_sI_, mK_sI_, mL_sI_, mI_sI_ap, mJ_sI_, mR_sI_, mN_sJ_, mK_sJ_, mL_sJ_, mI_sJ_, mJ_sJ_ap, mR_sJ_, mN_sR_, mK_sR_, mL_sR_, mI_sR_, mJ_sR_, mR_sR_ap, Nat.reduceEqDiff, Nat.reduceAdd, ↓reduceIte, and_true, true_and, and_false, false_and, or_true, true_or, or_false, false_or, not_true_eq_false, not_false_eq_true, i10, i01, ii01, ii02, ii03, ii04, ii05, ii12, ii13, ii14, ii15, ii20, ii21, ii23, ii24, ii25, ii30, ii31, ii32, ii34, ii35, ii40, ii41, ii42, ii43, ii45, ii50, ii51, ii52, ii53, ii54, bi_z, Option.some.injEq, reduceCtorEq, Nat.reduceLeDiff]
              · rw [y] at eE x46
                have x46' : mI m1 50 46 = (62 : Int32) := x46.trans (by decide)
                have n60 : ((62 : Int32) = 60) = False := eq_false (by decide)
                have ev : nI (16 * (tK B n i + 1)) + (1 : Int32) = nI (16 * (9 + (tK B n i - 8)) + (18 - 17)) := by rw [nI_1]; exact congrArg nI (by omega)
                simp only [f_X11_condition_b212, f_X11_condition_b275, f_X11_condition_b294, hM1s, x46', n60, a2, hM2s, k2t, e16, ev, v46, eE, hM3s, er, nx_eq, ck_true, br_true, br_false, bd_eq, de_eq, mN_sI_, mK_sI_, mL_sI_, mI_sI_ap, mJ_sI_, mR_sI_, mN_sJ_, mK_sJ_, mL_sJ_, mI_sJ_, mJ_sJ_ap, mR_sJ_, mN_sR_, mK_sR_, mL_sR_, mI_sR_, mJ_sR_, mR_sR_ap, Nat.reduceEqDiff, Nat.reduceAdd, ↓reduceIte, and_true, true_and, and_false, false_and, or_true, true_or, or_false, false_or, not_true_eq_false, not_false_eq_true, i10, i01, ii01, ii02, ii03, ii04, ii05, ii12, ii13, ii14, ii15, ii20, ii21, ii23, ii24, ii25, ii30, ii31, ii32, ii34, ii35, ii40, ii41, ii42, ii43, ii45, ii50, ii51, ii52, ii53, ii54, bi_z, Option.some.injEq, reduceCtorEq, Nat.reduceLeDiff]
              · rw [y] at eE x46
                have x46' : mI m1 50 46 = (61 : Int32) := x46.trans (by decide)
                have n60 : ((61 : Int32) = 60) = False := eq_false (by decide)
                have n62 : ((61 : Int32) = 62) = False := eq_false (by decide)
                have ev : nI (16 * (tK B n i + 1)) + (2 : Int32) = nI (16 * (9 + (tK B n i - 8)) + (19 - 17)) := by rw [p2k]; exact congrArg nI (by omega)
                simp only [f_X11_condition_b212, f_X11_condition_b275, f_X11_condition_b294, hM1s, x46', n60, n62, a2, hM2s, k2t, e16, ev, v46, eE, hM3s, er, nx_eq, ck_true, br_true, br_false, bd_eq, de_eq, mN_sI_, mK_sI_, mL_sI_, mI_sI_ap, mJ_sI_, mR_sI_, mN_sJ_, mK_sJ_, mL_sJ_, mI_sJ_, mJ_sJ_ap, mR_sJ_, mN_sR_, mK_sR_, mL_sR_, mI_sR_, mJ_sR_, mR_sR_ap, Nat.reduceEqDiff, Nat.reduceAdd, ↓reduceIte, and_true, true_and, and_false, false_and, or_true, true_or, or_false, false_or, not_true_eq_false, not_false_eq_true, i10, i01, ii01, ii02, ii03, ii04, ii05, ii12, ii13, ii14, ii15, ii20, ii21, ii23, ii24, ii25, ii30, ii31, ii32, ii34, ii35, ii40, ii41, ii42, ii43, ii45, ii50, ii51, ii52, ii53, ii54, bi_z, Option.some.injEq, reduceCtorEq, Nat.reduceLeDiff]
            have hC4 := hC3.nx F z8 i3
            have fc4 : FC D c (sI c3 4 4 (nI (i + 1 + 1 + 1))) sc := fc3.tr (FC.nx D c3 sc _) (Nat.le_refl _)
            have fx3 : frX X m m3 := (fx1.tr fx2).tr fx3'
            obtain ⟨t5, t6⟩ := hM3.take F hF
            by_cases d4 : tK B n (i + 1 + 1 + 1) = 21
            · obtain ⟨m', a3, a4, a5, a6⟩ := t6 d4
              refine Or.inr (Or.inr ⟨_, m', clas 1 _ eT b1, ?_, fc4, fx3.tr a4, i + 1 + 1 + 1, sc + 1, by omega, hC4, d4, by omega, a5, a6⟩)
              rw [rfs2 _ a3, bd_eq, br_t1 rfl]
            · obtain ⟨m4, a3, hM4, fx4, o4⟩ := t5 d4
              obtain ⟨⟨x1, x2⟩, x3, x4⟩ := a15
              have c15 : ∀ k, mI (sI c3 4 4 (nI (i + 1 + 1 + 1))) 15 k = mI c3 15 k ∧ mI (sI c3 4 4 (nI (i + 1 + 1 + 1))) 16 k = mI c3 16 k := fun k => ⟨by rw [mI_sI_o (by decide)], by rw [mI_sI_o (by decide)]⟩
              have c2p : ∀ k, mI c2 15 k = mI c 15 k ∧ mI c2 16 k = mI c 16 k := fun k => by rw [← hc2, ← hc1]; exact ⟨by rw [mI_sI_o (by decide), mI_sI_o (by decide)], by rw [mI_sI_o (by decide), mI_sI_o (by decide)]⟩
              refine Or.inl ⟨_, m4, i + 1 + 1 + 1, clas 1 _ eT b1, ?_, fc4, fx3.tr fx4, fun k hk => ?_, by omega, sc + 1, im + 1, 0, by omega, hC4, hM4, by omega, ⟨fun k hk => ?_, fun j hj => absurd hj (by omega)⟩, ?_, by omega, by omega⟩
              · show f_X11_condition_b72 F K 50 m (nI X) op v3 v4 = K m4 (nI X) op 0 v4
                rw [rfs2 _ a3, bd_eq, br_f1 (by decide)]
              · rw [o4 84 (by decide), i84, o2 84 (by decide), o1 84 (by decide)]
              · rw [o4 82 (by decide), o4 83 (by decide), (c15 _).1, (c15 _).2]
                by_cases e : k = im
                · subst e
                  rw [← hsc, x1, x3, ← hm3, mI_sI_o (by decide), mI_sI_o (by decide), mI_sI_e, mI_sI_o (by decide), mI_sI_e]
                  exact ⟨Or.inr (Or.inr (Or.inr ⟨tK B n i - 8, tK B n (i + 1) - 17, by omega, by omega, rfl, rfl⟩)), rfl⟩
                · rw [x2 _ (by omega), x4 _ (by omega), (c2p _).1, (c2p _).2, ← hm3, mI_sI_o (by decide), mI_sI_o (by decide), mI_sI_j (by omega), mI_sI_o (by decide), mI_sI_j (by omega), mI_sI_o (by decide), o2 82 (by decide), o2 83 (by decide), o1 82 (by decide), o1 83 (by decide)]
                  exact hSR.1 k (by omega)
              · have e1 : sc + 1 - u0 = (sc - u0) + 1 := by omega
                have e2 : pileH (mI (sI c3 4 4 (nI (i + 1 + 1 + 1))) 15) u0 (sc - u0) = some h := by
                  rw [← hpl]
                  exact pileH_ext _ (fun k hk => by rw [(c15 _).1, x2 _ (by omega), (c2p _).1])
                obtain ⟨q1, q2, q3⟩ := cm_12 (s := tK B n i - 8) (r := tK B n (i + 1) - 17) (by omega) (by omega)
                have e3 : mI (sI c3 4 4 (nI (i + 1 + 1 + 1))) 15 (u0 + (sc - u0)) = nI (3 * (tK B n i - 8) + (tK B n (i + 1) - 17)) := by rw [(c15 _).1, show u0 + (sc - u0) = sc by omega, x1]
                rw [e1, pileH_st e2, e3, if_neg q1, if_neg (fun y => y.elim q2 q3), if_pos hh]
          · have eT := e_takeN F z8 hC3.1 (q := 20) (by decide) d3
            have k2f : (mI m2 50 45 = 2) = False := by rw [kk2.2.2.1]; exact eq_false d3
            refine Or.inr (Or.inl ⟨_, _, clas 0 _ eT b0, ?_, bad_wrong (k := 1) hC3.1 hM2 fc3.1 (fx1.tr fx2) (by decide) (by decide)⟩)
            rw [rfs]
            simp only [f_X11_condition_b212, hM1s, a2, hM2s, k2f, e_wrongM F hM2s hM2.2.1, b0, nx_eq, ck_true, br_true, br_false, bd_eq, de_eq, mN_sI_, mK_sI_, mL_sI_, mI_sI_ap, mJ_sI_, mR_sI_, mN_sJ_, mK_sJ_, mL_sJ_, mI_sJ_, mJ_sJ_ap, mR_sJ_, mN_sR_, mK_sR_, mL_sR_, mI_sR_, mJ_sR_, mR_sR_ap, Nat.reduceEqDiff, Nat.reduceAdd, ↓reduceIte, and_true, true_and, and_false, false_and, or_true, true_or, or_false, false_or, not_true_eq_false, not_false_eq_true, i10, i01, ii01, ii02, ii03, ii04, ii05, ii12, ii13, ii14, ii15, ii20, ii21, ii23, ii24, ii25, ii30, ii31, ii32, ii34, ii35, ii40, ii41, ii42, ii43, ii45, ii50, ii51, ii52, ii53, ii54, bi_z, Option.some.injEq, reduceCtorEq, Nat.reduceLeDiff]
            rfl
      · rw [if_neg r3] at eR
        rw [bi_f (by omega)] at eI60 eI62 eI61
        refine Or.inr (Or.inl ⟨sI c1 3 2 1, _, ?_, ?_, bad_wrong (k := 1) hT1 hM1 fc1.1 fx1 (by decide) (by decide)⟩)
        · simp only [f_X6_readComparison, hCs, eK, eSu, sn, eP, hC1s, eK1, eR, e_refuse F hC1s, b0, nx_eq, ck_true, br_true, br_false, bd_eq, de_eq, mN_sI_, mK_sI_, mL_sI_, mI_sI_ap, mJ_sI_, mR_sI_, mN_sJ_, mK_sJ_, mL_sJ_, mI_sJ_, mJ_sJ_ap, mR_sJ_, mN_sR_, mK_sR_, mL_sR_, mI_sR_, mJ_sR_, mR_sR_ap, Nat.reduceEqDiff, Nat.reduceAdd, ↓reduceIte, and_true, true_and, and_false, false_and, or_true, true_or, or_false, false_or, not_true_eq_false, not_false_eq_true, i10, i01, ii01, ii02, ii03, ii04, ii05, ii12, ii13, ii14, ii15, ii20, ii21, ii23, ii24, ii25, ii30, ii31, ii32, ii34, ii35, ii40, ii41, ii42, ii43, ii45, ii50, ii51, ii52, ii53, ii54, bi_z, Option.some.injEq, reduceCtorEq, Nat.reduceLeDiff]
        · simp only [f_X11_condition_b72, hMs, eI, k45, w46, l9, a1, hM1s, eI60, eI62, eI61, e_wrongM F hM1s hM1.2.1, b0, nx_eq, ck_true, br_true, br_false, bd_eq, de_eq, mN_sI_, mK_sI_, mL_sI_, mI_sI_ap, mJ_sI_, mR_sI_, mN_sJ_, mK_sJ_, mL_sJ_, mI_sJ_, mJ_sJ_ap, mR_sJ_, mN_sR_, mK_sR_, mL_sR_, mI_sR_, mJ_sR_, mR_sR_ap, Nat.reduceEqDiff, Nat.reduceAdd, ↓reduceIte, and_true, true_and, and_false, false_and, or_true, true_or, or_false, false_or, not_true_eq_false, not_false_eq_true, i10, i01, ii01, ii02, ii03, ii04, ii05, ii12, ii13, ii14, ii15, ii20, ii21, ii23, ii24, ii25, ii30, ii31, ii32, ii34, ii35, ii40, ii41, ii42, ii43, ii45, ii50, ii51, ii52, ii53, ii54, bi_z, Option.some.injEq, reduceCtorEq, Nat.reduceLeDiff]
          rfl
  · rw [if_neg s8] at eSu
    refine Or.inr (Or.inl ⟨sI c 3 2 1, _, ?_, ?_, bad_wrong (k := 1) hC.1 hM (frB.rf c) (frX.rf X m) (by decide) (by decide)⟩)
    · simp only [f_X6_readComparison, hCs, eK, eSu, e_refuse F hCs, b0, nx_eq, ck_true, br_true, br_false, bd_eq, de_eq, mN_sI_, mK_sI_, mL_sI_, mI_sI_ap, mJ_sI_, mR_sI_, mN_sJ_, mK_sJ_, mL_sJ_, mI_sJ_, mJ_sJ_ap, mR_sJ_, mN_sR_, mK_sR_, mL_sR_, mI_sR_, mJ_sR_, mR_sR_ap, Nat.reduceEqDiff, Nat.reduceAdd, ↓reduceIte, and_true, true_and, and_false, false_and, or_true, true_or, or_false, false_or, not_true_eq_false, not_false_eq_true, i10, i01, ii01, ii02, ii03, ii04, ii05, ii12, ii13, ii14, ii15, ii20, ii21, ii23, ii24, ii25, ii30, ii31, ii32, ii34, ii35, ii40, ii41, ii42, ii43, ii45, ii50, ii51, ii52, ii53, ii54, bi_z, Option.some.injEq, reduceCtorEq, Nat.reduceLeDiff]
    · by_cases w : tK B n i < 12
      · have k45 : (mI m 50 45 = 1) = True := by rw [kk.2.1]; exact eq_true w
        have w46 : mI m 50 46 = nI (tK B n i + 1) := (tkd.2.2.2.1 w).2
        have l9 : ((9 : Int32) ≤ nI (tK B n i + 1)) = False := eq_false (nI_ge (b := 9) (by omega) (by decide))
        simp only [f_X11_condition_b72, f_X11_condition_b147, hMs, eI, k45, w46, l9, e_wrongM F hMs hM.2.1, b0, nx_eq, ck_true, br_true, br_false, bd_eq, de_eq, mN_sI_, mK_sI_, mL_sI_, mI_sI_ap, mJ_sI_, mR_sI_, mN_sJ_, mK_sJ_, mL_sJ_, mI_sJ_, mJ_sJ_ap, mR_sJ_, mN_sR_, mK_sR_, mL_sR_, mI_sR_, mJ_sR_, mR_sR_ap, Nat.reduceEqDiff, Nat.reduceAdd, ↓reduceIte, and_true, true_and, and_false, false_and, or_true, true_or, or_false, false_or, not_true_eq_false, not_false_eq_true, i10, i01, ii01, ii02, ii03, ii04, ii05, ii12, ii13, ii14, ii15, ii20, ii21, ii23, ii24, ii25, ii30, ii31, ii32, ii34, ii35, ii40, ii41, ii42, ii43, ii45, ii50, ii51, ii52, ii53, ii54, bi_z, Option.some.injEq, reduceCtorEq, Nat.reduceLeDiff]
        rfl
      · have k45 : (mI m 50 45 = 1) = False := by rw [kk.2.1]; exact eq_false w
        simp only [f_X11_condition_b72, f_X11_condition_b147, hMs, eI, k45, e_wrongM F hMs hM.2.1, b0, nx_eq, ck_true, br_true, br_false, bd_eq, de_eq, mN_sI_, mK_sI_, mL_sI_, mI_sI_ap, mJ_sI_, mR_sI_, mN_sJ_, mK_sJ_, mL_sJ_, mI_sJ_, mJ_sJ_ap, mR_sJ_, mN_sR_, mK_sR_, mL_sR_, mI_sR_, mJ_sR_, mR_sR_ap, Nat.reduceEqDiff, Nat.reduceAdd, ↓reduceIte, and_true, true_and, and_false, false_and, or_true, true_or, or_false, false_or, not_true_eq_false, not_false_eq_true, i10, i01, ii01, ii02, ii03, ii04, ii05, ii12, ii13, ii14, ii15, ii20, ii21, ii23, ii24, ii25, ii30, ii31, ii32, ii34, ii35, ii40, ii41, ii42, ii43, ii45, ii50, ii51, ii52, ii53, ii54, bi_z, Option.some.injEq, reduceCtorEq, Nat.reduceLeDiff]
        rfl
