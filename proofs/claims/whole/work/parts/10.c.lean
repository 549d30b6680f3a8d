/-! the tokens of a text, and the class's row of them -/
def skW (B : Nat → Nat) (n p : Nat) : Nat := runE (fun e => isW (B e)) (n - p) p
theorem skW_w {B : Nat → Nat} {n p : Nat} (h : p < n) (hw : isW (B p)) : skW B n p = skW B n (p + 1) := by
  unfold skW
  have e : n - p = (n - (p + 1)) + 1 := by omega
  rw [e]
  exact if_pos hw
theorem skW_n {B : Nat → Nat} {n p : Nat} (hw : ¬ isW (B p)) : skW B n p = p := runE_f _ hw
theorem skW_e (B : Nat → Nat) (n : Nat) : skW B n n = n := by unfold skW; rw [Nat.sub_self]; rfl
theorem skW_ge {B : Nat → Nat} {n p : Nat} (h : p ≤ n) : p ≤ skW B n p ∧ skW B n p ≤ n := by
  have := runE_ge (fun e => isW (B e)) (n - p) p
  unfold skW
  omega
noncomputable def tkA (B : Nat → Nat) (n p : Nat) : Nat := if isD (B p) then (if numR B (tE B n p - p) p 0 ≤ 99999 then 20 else 21) else kdF B p (tE B n p) 23 0
noncomputable def tS (B : Nat → Nat) (n : Nat) : Nat → Nat
  | 0 => 0
  | i + 1 => if skW B n (tS B n i) < n then tE B n (skW B n (tS B n i)) else n
noncomputable def tP (B : Nat → Nat) (n i : Nat) : Nat := skW B n (tS B n i)
noncomputable def tK (B : Nat → Nat) (n i : Nat) : Nat := if tP B n i < n then tkA B n (tP B n i) else 22
noncomputable def tV (B : Nat → Nat) (n i : Nat) : Nat := if tP B n i < n ∧ isD (B (tP B n i)) then numR B (tE B n (tP B n i) - tP B n i) (tP B n i) 0 else 0
theorem tS_le (B : Nat → Nat) (n : Nat) : ∀ i, tS B n i ≤ n := by
  intro i
  cases i with
  | zero => exact Nat.zero_le _
  | succ i =>
    show (if skW B n (tS B n i) < n then tE B n (skW B n (tS B n i)) else n) ≤ n
    by_cases e : skW B n (tS B n i) < n
    · rw [if_pos e]; exact (tE_gt B e).2
    · rw [if_neg e]; exact Nat.le_refl _
theorem tS_s {B : Nat → Nat} {n i : Nat} (h : tP B n i < n) : tS B n (i + 1) = tE B n (tP B n i) := if_pos h
theorem tkA_lt {B : Nat → Nat} {n p : Nat} (h : p < n) : tkA B n p < 22 := by
  unfold tkA
  by_cases d : isD (B p)
  · rw [if_pos d]
    by_cases e : numR B (tE B n p - p) p 0 ≤ 99999
    · rw [if_pos e]; decide
    · rw [if_neg e]; decide
  · rw [if_neg d]; exact kdF_lt (tE_gt B h).1 23 0 rfl
def frS (c c' : Mem) : Prop := mK c' = mK c ∧ mL c' = mL c ∧ mN c' = mN c ∧ mJ c' = mJ c ∧ (∀ x, x ≠ 4 → x ≠ 6 → x ≠ 7 → mI c' x = mI c x) ∧ ∀ x, x ≠ 5 → mR c' x = mR c x
theorem frS.rf (c : Mem) : frS c c := ⟨rfl, rfl, rfl, rfl, fun _ _ _ _ => rfl, fun _ _ => rfl⟩
theorem frS.tr {a b c : Mem} (h : frS a b) (g : frS b c) : frS a c := ⟨g.1.trans h.1, g.2.1.trans h.2.1, g.2.2.1.trans h.2.2.1, g.2.2.2.1.trans h.2.2.2.1, fun x h1 h2 h3 => (g.2.2.2.2.1 x h1 h2 h3).trans (h.2.2.2.2.1 x h1 h2 h3), fun x h1 => (g.2.2.2.2.2 x h1).trans (h.2.2.2.2.2 x h1)⟩
theorem shC.t5 {c c' : Mem} (h : shC c) (hK : mK c' = mK c) (hL : mL c' = mL c) (hR : ∀ t, t ≠ 5 → mR c' t = mR c t) : shC c' := by
  unfold shC at h ⊢
  simp (disch := decide) only [hK, hL, hR]
  exact h
theorem frS.shC {c c' : Mem} (h : frS c c') (hC : shC c) : shC c' := hC.t5 h.1 h.2.1 h.2.2.2.2.2
theorem CB.cg {c c' : Mem} {B : Nat → Nat} {n : Nat} (h : CB c B n) (g : frS c c') : CB c' B n := by
  obtain ⟨h1, h2, h3, h4⟩ := h
  refine ⟨g.shC h1, h2, ?_, ?_⟩
  · rw [g.2.2.2.2.1 1 (by decide) (by decide) (by decide)]; exact h3
  · rw [g.2.2.2.2.1 2 (by decide) (by decide) (by decide)]; exact h4
theorem e_addToken (F : Nat) {c : Mem} (hC : shC c) {i q : Nat} (hi : i ≤ 800) (hq : q < 23) (h3 : mI c 4 3 = nI i) (v w : Int32) : ∃ c', f_X9_addToken F c 4 (some (1000000 + q)) v w = some ((), c') ∧ frS c c' ∧ mI c' 4 3 = nI (i + 1) ∧ mI c' 4 4 = mI c 4 4 ∧ (mR c' 5 i = some (1000000 + q) ∧ mI c' 6 i = v ∧ mI c' 7 i = w) ∧ ∀ t, t ≠ i → mR c' 5 t = mR c 5 t ∧ mI c' 6 t = mI c 6 t ∧ mI c' 7 t = mI c 7 t := by
  have g1 : ¬ (800 : Int32) < nI i := nI_nlt (a := 800) (by omega) (by decide)
  have v1 := vp_nI (show i < 801 by omega) (show 801 < 2147483648 by decide)
  have n1 := nI_cl (show i < 2147483648 by omega)
  have g2 : 1000000 ≤ 1000000 + q := by omega
  have g3 : 1000000 + q < 1000023 := by omega
  refine ⟨sI (sI (sI (sR c 5 i (some (1000000 + q))) 6 i v) 7 i w) 4 3 (nI (i + 1)), ?_, ⟨rfl, rfl, rfl, rfl, fun x a1 a2 a3 => ?_, fun x hx => ?_⟩, mI_sI_e, ?_, ⟨?_, ?_, ?_⟩, fun t ht => ⟨?_, ?_, ?_⟩⟩
  · simp only [f_X9_addToken, hC, h3, g1, v1, n1, g2, g3, nI_1, nx_eq, ck_true, br_true, br_false, bd_eq, de_eq, mN_sI_, mK_sI_, mL_sI_, mI_sI_ap, mJ_sI_, mR_sI_, mN_sJ_, mK_sJ_, mL_sJ_, mI_sJ_, mJ_sJ_ap, mR_sJ_, mN_sR_, mK_sR_, mL_sR_, mI_sR_, mJ_sR_, mR_sR_ap, Nat.reduceEqDiff, Nat.reduceAdd, ↓reduceIte, and_true, true_and, and_false, false_and, or_true, true_or, or_false, false_or, not_true_eq_false, not_false_eq_true, i10, i01, ii01, ii02, ii03, ii04, ii05, ii12, ii13, ii14, ii15, ii20, ii21, ii23, ii24, ii25, ii30, ii31, ii32, ii34, ii35, ii40, ii41, ii42, ii43, ii45, ii50, ii51, ii52, ii53, ii54, bi_z, Option.some.injEq, reduceCtorEq, Nat.reduceLeDiff]
  · rw [mI_sI_o a1, mI_sI_o a3, mI_sI_o a2]; rfl
  · exact up2_a _ _ hx
  · rw [mI_sI_j (by decide), mI_sI_o (by decide), mI_sI_o (by decide)]; rfl
  · exact up2_s _ _ _ _
  · rw [mI_sI_o (by decide), mI_sI_o (by decide), mI_sI_e]
  · rw [mI_sI_o (by decide), mI_sI_e]
  · exact up2_n _ _ (fun z => ht z.2)
  · rw [mI_sI_o (by decide), mI_sI_o (by decide), mI_sI_j ht]; rfl
  · rw [mI_sI_o (by decide), mI_sI_j ht, mI_sI_o (by decide)]; rfl
/-- token i stands in the class's row -/
def ST (B : Nat → Nat) (n : Nat) (c : Mem) (i : Nat) : Prop := mR c 5 i = some (1000000 + tK B n i) ∧ mI c 6 i = nI (tP B n i) ∧ mI c 7 i = nI (tV B n i)
theorem runE_all (Q : Nat → Prop) [DecidablePred Q] : ∀ k e i, e ≤ i → i < runE Q k e → Q i := by
  intro k
  induction k with
  | zero => intro e i h1 h2; exact absurd h2 (by show ¬ i < e; omega)
  | succ k ih =>
    intro e i h1 h2
    have h2' : i < (if Q e then runE Q k (e + 1) else e) := h2
    by_cases q : Q e
    · rw [if_pos q] at h2'
      by_cases z : i = e
      · rw [z]; exact q
      · exact ih (e + 1) i (by omega) h2'
    · rw [if_neg q] at h2'
      omega
theorem lp_scan (F : Nat) (hF : 1000 ≤ F) {B : Nat → Nat} {n : Nat} : ∀ k p s i M c, p + k = n → s ≤ p → k < M → i ≤ p → skW B n p = tP B n i → CB c B n → mI c 4 3 = nI i → (∀ t, t < i → ST B n c t) →
    ∃ c' z, f_X9_scan_b15 F 4 M c (some 1) (nI n) (nI p) (nI s) = some ((), c') ∧ frS c c' ∧ mI c' 4 4 = mI c 4 4 ∧ mI c' 4 3 = nI z ∧ i < z ∧ z ≤ 801 ∧ tP B n (z - 1) = n ∧ (∀ t, i ≤ t → t + 1 < z → tP B n t < n) ∧ ∀ t, t < z → ST B n c' t := by
  intro k
  induction k using Nat.strongRecOn with
  | ind k ih =>
    intro p s i M c hp hsp hM hip hsk hCB h3 hST
    have hn := hCB.2.1
    have hC := hCB.1
    obtain ⟨M, rfl⟩ : ∃ x, M = x + 1 := ⟨M - 1, by omega⟩
    by_cases k0 : k = 0
    · obtain rfl : p = n := by omega
      rw [skW_e] at hsk
      obtain ⟨c', a1, a2, a3, a4, ⟨a5, a6, a7⟩, a8⟩ := e_addToken F hC (i := i) (q := 22) (by omega) (by decide) h3 (nI p) 0
      refine ⟨c', i + 1, ?_, a2, a4, a3, by omega, by omega, hsk.symm, fun t h1 h2 => absurd h2 (by omega), fun t ht => ?_⟩
      · have k4 : mK c 4 = 9 := by simp only [hC]
        have eb : f_X9_scan_b120 F 4 c (nI p) = some ((), c') := by
          have a1' : f_X9_addToken F c 4 (some 1000022) (nI p) 0 = some ((), c') := a1
          simp only [f_X9_scan_b120, k4, a1', nx_eq, ck_true, br_true, br_false, bd_eq, de_eq, mN_sI_, mK_sI_, mL_sI_, mI_sI_ap, mJ_sI_, mR_sI_, mN_sJ_, mK_sJ_, mL_sJ_, mI_sJ_, mJ_sJ_ap, mR_sJ_, mN_sR_, mK_sR_, mL_sR_, mI_sR_, mJ_sR_, mR_sR_ap, Nat.reduceEqDiff, Nat.reduceAdd, ↓reduceIte, and_true, true_and, and_false, false_and, or_true, true_or, or_false, false_or, not_true_eq_false, not_false_eq_true, i10, i01, ii01, ii02, ii03, ii04, ii05, ii12, ii13, ii14, ii15, ii20, ii21, ii23, ii24, ii25, ii30, ii31, ii32, ii34, ii35, ii40, ii41, ii42, ii43, ii45, ii50, ii51, ii52, ii53, ii54, bi_z, Option.some.injEq, reduceCtorEq, Nat.reduceLeDiff]
        show f_X9_scan_b15_it F (f_X9_scan_b15 F 4 M) 4 c (some 1) (nI p) (nI p) (nI s) = _
        unfold f_X9_scan_b15_it
        by_cases q : nI p ≤ nI s
        · rw [br_t1 q]; exact eb
        · rw [br_f1 q, br_t1 (nI_le (Nat.le_refl _) (by omega))]; exact eb
      · by_cases e : t = i
        · rw [e]
          refine ⟨?_, ?_, ?_⟩
          · rw [a5]
            unfold tK
            rw [← hsk, if_neg (by omega)]
          · rw [a6, ← hsk]
          · rw [a7]
            unfold tV
            rw [← hsk, if_neg (by omega)]
            rfl
        · obtain ⟨b1, b2, b3⟩ := a8 t e
          obtain ⟨d1, d2, d3⟩ := hST t (by omega)
          exact ⟨b1.trans d1, b2.trans d2, b3.trans d3⟩
    · have hpn : p < n := by omega
      have q1 : ¬ nI n ≤ nI s := nI_ge (by omega) (by omega)
      have q2 : ¬ nI n ≤ nI p := nI_ge hpn (by omega)
      have hb := (hCB.2.2.2 p hpn).1
      have eB := e_byteAt F hCB hpn
      have eE := e_endOfRun F hF hCB hpn
      have eD := e_isDigit F c hb
      have k1 : mK c 1 = 8 := by simp only [hC]
      have k4 : mK c 4 = 9 := by simp only [hC]
      have e10 : (sbI (B p) = (10 : Int32)) = (B p = 10) := sb_eq hb (v := 10) (by decide)
      have e32 : (sbI (B p) = (32 : Int32)) = (B p = 32) := sb_eq hb (v := 32) (by decide)
      obtain ⟨t1, t2⟩ := tE_gt B hpn
      have hcx : ∀ r, f_X9_scan_b15_it F (f_X9_scan_b15 F 4 M) 4 c (some 1) (nI n) (nI p) (nI s) = r → f_X9_scan_b15 F 4 (M + 1) c (some 1) (nI n) (nI p) (nI s) = r := fun r e => e
      by_cases w : isW (B p)
      · have d : ¬ isD (B p) := by omega
        have l : ¬ isL (B p) := by omega
        have et : tE B n p = p + 1 := by unfold tE; rw [if_neg l, if_neg d]
        rw [bi_f d] at eD
        rw [et] at eE
        obtain ⟨c', z, a1, a2⟩ := ih (k - 1) (by omega) (p + 1) (s + 1) i M c (by omega) (by omega) (by omega) (by omega) (by rw [← skW_w hpn w]; exact hsk) hCB h3 hST
        refine ⟨c', z, hcx _ ?_, a2⟩
        rcases w with w | w
        · have w10 : sbI (B p) = (10 : Int32) := by rw [e10]; exact w
          rw [w10] at eB eD
          simp only [f_X9_scan_b15_it, f_X9_scan_b111, q1, q2, k1, eB, eE, eD, w10, nI_1, a1, nx_eq, ck_true, br_true, br_false, bd_eq, de_eq, mN_sI_, mK_sI_, mL_sI_, mI_sI_ap, mJ_sI_, mR_sI_, mN_sJ_, mK_sJ_, mL_sJ_, mI_sJ_, mJ_sJ_ap, mR_sJ_, mN_sR_, mK_sR_, mL_sR_, mI_sR_, mJ_sR_, mR_sR_ap, Nat.reduceEqDiff, Nat.reduceAdd, ↓reduceIte, and_true, true_and, and_false, false_and, or_true, true_or, or_false, false_or, not_true_eq_false, not_false_eq_true, i10, i01, ii01, ii02, ii03, ii04, ii05, ii12, ii13, ii14, ii15, ii20, ii21, ii23, ii24, ii25, ii30, ii31, ii32, ii34, ii35, ii40, ii41, ii42, ii43, ii45, ii50, ii51, ii52, ii53, ii54, bi_z, Option.some.injEq, reduceCtorEq, Nat.reduceLeDiff]
        · have w10 : ¬ sbI (B p) = (10 : Int32) := by rw [e10]; omega
          have w32 : sbI (B p) = (32 : Int32) := by rw [e32]; exact w
          have w11 : ((32 : Int32) = 10) = False := eq_false (by decide)
          rw [w32] at eB eD
          simp only [f_X9_scan_b15_it, f_X9_scan_b111, q1, q2, k1, eB, eE, eD, w32, w11, nI_1, a1, nx_eq, ck_true, br_true, br_false, bd_eq, de_eq, mN_sI_, mK_sI_, mL_sI_, mI_sI_ap, mJ_sI_, mR_sI_, mN_sJ_, mK_sJ_, mL_sJ_, mI_sJ_, mJ_sJ_ap, mR_sJ_, mN_sR_, mK_sR_, mL_sR_, mI_sR_, mJ_sR_, mR_sR_ap, Nat.reduceEqDiff, Nat.reduceAdd, ↓reduceIte, and_true, true_and, and_false, false_and, or_true, true_or, or_false, false_or, not_true_eq_false, not_false_eq_true, i10, i01, ii01, ii02, ii03, ii04, ii05, ii12, ii13, ii14, ii15, ii20, ii21, ii23, ii24, ii25, ii30, ii31, ii32, ii34, ii35, ii40, ii41, ii42, ii43, ii45, ii50, ii51, ii52, ii53, ii54, bi_z, Option.some.injEq, reduceCtorEq, Nat.reduceLeDiff]
      · have hpi : tP B n i = p := by rw [← hsk]; exact skW_n w
        have hlt : tP B n i < n := by omega
        have hs1 : skW B n (tE B n p) = tP B n (i + 1) := by
          unfold tP
          rw [tS_s hlt, hpi]
        have kA : tK B n i = tkA B n p := by unfold tK; rw [if_pos hlt, hpi]
        have go : ∀ (q : Nat) (v : Int32), q = tK B n i → v = nI (tV B n i) → q < 23 → ∃ c1, f_X9_addToken F c 4 (some (1000000 + q)) (nI p) v = some ((), c1) ∧ ∃ c' z, f_X9_scan_b15 F 4 M c1 (some 1) (nI n) (nI (tE B n p)) (nI (s + 1)) = some ((), c') ∧ frS c c' ∧ mI c' 4 4 = mI c 4 4 ∧ mI c' 4 3 = nI z ∧ i < z ∧ z ≤ 801 ∧ tP B n (z - 1) = n ∧ (∀ t, i ≤ t → t + 1 < z → tP B n t < n) ∧ ∀ t, t < z → ST B n c' t := by
          intro q v hq hv hq23
          obtain ⟨c1, a1, a2, a3, a4, ⟨a5, a6, a7⟩, a8⟩ := e_addToken F hC (i := i) (q := q) (by omega) hq23 h3 (nI p) v
          obtain ⟨c', z, b1, b2, b3, b4, b5, b6, b7, b8, b9⟩ := ih (n - tE B n p) (by omega) (tE B n p) (s + 1) (i + 1) M c1 (by omega) (by omega) (by omega) (by omega) hs1 (hCB.cg a2) a3 (fun t ht => by
            by_cases e : t = i
            · rw [e]
              exact ⟨by rw [a5, hq], by rw [a6, hpi], by rw [a7, hv]⟩
            · obtain ⟨x1, x2, x3⟩ := a8 t e
              obtain ⟨d1, d2, d3⟩ := hST t (by omega)
              exact ⟨x1.trans d1, x2.trans d2, x3.trans d3⟩)
          refine ⟨c1, a1, c', z, b1, a2.tr b2, b3.trans a4, b4, by omega, b6, b7, fun t h1 h2 => ?_, b9⟩
          by_cases e : t = i
          · rw [e]; exact hlt
          · exact b8 t (by omega) h2
        by_cases d : isD (B p)
        · have l : ¬ isL (B p) := by omega
          rw [bi_t d] at eD
          have hrun : ∀ j, p ≤ j → j < tE B n p → isD (B j) := by
            intro j j1 j2
            by_cases e : j = p
            · rw [e]; exact d
            · unfold tE at j2
              rw [if_neg l, if_pos d] at j2
              exact runE_all (fun e => isD (B e)) _ (p + 1) j (by omega) j2
          have eN := lp_num F hCB t2 (tE B n p - p) p 0 F (by omega) (by omega) (by omega) hrun
          have eN' : f_X9_numberIn F c (some 1) (nI p) (nI (tE B n p)) = some (nI (numR B (tE B n p - p) p 0), c) := eN
          have hv : tV B n i = numR B (tE B n p - p) p 0 := by
            unfold tV
            rw [hpi, if_pos ⟨hpn, d⟩]
          have nle := numR_le B (tE B n p - p) p 0 (by omega)
          have eq1 : (nI (numR B (tE B n p - p) p 0) ≤ (99999 : Int32)) = (numR B (tE B n p - p) p 0 ≤ 99999) := nI_lek 99999 (by omega) (by decide)
          by_cases q : numR B (tE B n p - p) p 0 ≤ 99999
          · have hk : (20 : Nat) = tK B n i := by rw [kA]; unfold tkA; rw [if_pos d, if_pos q]
            obtain ⟨c1, g1, c', z, g2, g3⟩ := go 20 (nI (numR B (tE B n p - p) p 0)) hk (by rw [hv]) (by decide)
            have g1' : f_X9_addToken F c 4 (some 1000020) (nI p) (nI (numR B (tE B n p - p) p 0)) = some ((), c1) := g1
            refine ⟨c', z, hcx _ ?_, g3⟩
            simp only [f_X9_scan_b15_it, f_X9_scan_b75, f_X9_scan_b111, q1, q2, k1, k4, eB, eE, eD, eN', eq1, q, g1', nI_1, g2, nx_eq, ck_true, br_true, br_false, bd_eq, de_eq, mN_sI_, mK_sI_, mL_sI_, mI_sI_ap, mJ_sI_, mR_sI_, mN_sJ_, mK_sJ_, mL_sJ_, mI_sJ_, mJ_sJ_ap, mR_sJ_, mN_sR_, mK_sR_, mL_sR_, mI_sR_, mJ_sR_, mR_sR_ap, Nat.reduceEqDiff, Nat.reduceAdd, ↓reduceIte, and_true, true_and, and_false, false_and, or_true, true_or, or_false, false_or, not_true_eq_false, not_false_eq_true, i10, i01, ii01, ii02, ii03, ii04, ii05, ii12, ii13, ii14, ii15, ii20, ii21, ii23, ii24, ii25, ii30, ii31, ii32, ii34, ii35, ii40, ii41, ii42, ii43, ii45, ii50, ii51, ii52, ii53, ii54, bi_z, Option.some.injEq, reduceCtorEq, Nat.reduceLeDiff]
          · have hk : (21 : Nat) = tK B n i := by rw [kA]; unfold tkA; rw [if_pos d, if_neg q]
            obtain ⟨c1, g1, c', z, g2, g3⟩ := go 21 (nI (numR B (tE B n p - p) p 0)) hk (by rw [hv]) (by decide)
            have g1' : f_X9_addToken F c 4 (some 1000021) (nI p) (nI (numR B (tE B n p - p) p 0)) = some ((), c1) := g1
            refine ⟨c', z, hcx _ ?_, g3⟩
            simp only [f_X9_scan_b15_it, f_X9_scan_b75, f_X9_scan_b111, q1, q2, k1, k4, eB, eE, eD, eN', eq1, q, g1', nI_1, g2, nx_eq, ck_true, br_true, br_false, bd_eq, de_eq, mN_sI_, mK_sI_, mL_sI_, mI_sI_ap, mJ_sI_, mR_sI_, mN_sJ_, mK_sJ_, mL_sJ_, mI_sJ_, mJ_sJ_ap, mR_sJ_, mN_sR_, mK_sR_, mL_sR_, mI_sR_, mJ_sR_, mR_sR_ap, Nat.reduceEqDiff, Nat.reduceAdd, ↓reduceIte, and_true, true_and, and_false, false_and, or_true, true_or, or_false, false_or, not_true_eq_false, not_false_eq_true, i10, i01, ii01, ii02, ii03, ii04, ii05, ii12, ii13, ii14, ii15, ii20, ii21, ii23, ii24, ii25, ii30, ii31, ii32, ii34, ii35, ii40, ii41, ii42, ii43, ii45, ii50, ii51, ii52, ii53, ii54, bi_z, Option.some.injEq, reduceCtorEq, Nat.reduceLeDiff]
        · rw [bi_f d] at eD
          have eK := e_kindOf F hF hCB t1 t2
          have hk : kdF B p (tE B n p) 23 0 = tK B n i := by rw [kA]; unfold tkA; rw [if_neg d]
          have hv : tV B n i = 0 := by
            unfold tV
            rw [hpi, if_neg (fun y => d y.2)]
          obtain ⟨c1, g1, c', z, g2, g3⟩ := go (kdF B p (tE B n p) 23 0) 0 hk (by rw [hv]; rfl) (by have := kdF_lt (B := B) t1 23 0 rfl; omega)
          have w10 : ¬ B p = 10 := fun y => w (Or.inl y)
          have w32 : ¬ B p = 32 := fun y => w (Or.inr y)
          refine ⟨c', z, hcx _ ?_, g3⟩
          simp only [f_X9_scan_b15_it, f_X9_scan_b111, q1, q2, k1, k4, eB, eE, eD, e10, w10, e32, w32, eK, g1, nI_1, g2, nx_eq, ck_true, br_true, br_false, bd_eq, de_eq, mN_sI_, mK_sI_, mL_sI_, mI_sI_ap, mJ_sI_, mR_sI_, mN_sJ_, mK_sJ_, mL_sJ_, mI_sJ_, mJ_sJ_ap, mR_sJ_, mN_sR_, mK_sR_, mL_sR_, mI_sR_, mJ_sR_, mR_sR_ap, Nat.reduceEqDiff, Nat.reduceAdd, ↓reduceIte, and_true, true_and, and_false, false_and, or_true, true_or, or_false, false_or, not_true_eq_false, not_false_eq_true, i10, i01, ii01, ii02, ii03, ii04, ii05, ii12, ii13, ii14, ii15, ii20, ii21, ii23, ii24, ii25, ii30, ii31, ii32, ii34, ii35, ii40, ii41, ii42, ii43, ii45, ii50, ii51, ii52, ii53, ii54, bi_z, Option.some.injEq, reduceCtorEq, Nat.reduceLeDiff]
