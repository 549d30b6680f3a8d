/-! conditions: both piles -/
theorem pileH_pre (w : Nat → Int32) (u : Nat) : ∀ n k x, pileH w u (k + n) = some x → ∃ h, pileH w u k = some h := by
  intro n
  induction n with
  | zero => intro k x h; exact ⟨x, h⟩
  | succ n ih =>
    intro k x h
    cases e : pileH w u (k + n) with
    | none =>
      have : pileH w u (k + (n + 1)) = none := by
        show (match pileH w u (k + n) with
          | none => none
          | some h => if w (u + (k + n)) = 12 then (if 1 ≤ h then some h else none) else if w (u + (k + n)) = 13 ∨ w (u + (k + n)) = 14 then (if 2 ≤ h then some (h - 1) else none) else if h < 20 then some (h + 1) else none) = none
        rw [e]
      rw [this] at h
      exact absurd h (by simp)
    | some y => exact ih k y e
theorem pileH_st {w : Nat → Int32} {u k h : Nat} (e : pileH w u k = some h) : pileH w u (k + 1) = if w (u + k) = 12 then (if 1 ≤ h then some h else none) else if w (u + k) = 13 ∨ w (u + k) = 14 then (if 2 ≤ h then some (h - 1) else none) else if h < 20 then some (h + 1) else none := by
  show (match pileH w u k with
    | none => none
    | some h => if w (u + k) = 12 then (if 1 ≤ h then some h else none) else if w (u + k) = 13 ∨ w (u + k) = 14 then (if 2 ≤ h then some (h - 1) else none) else if h < 20 then some (h + 1) else none) = _
  rw [e]
theorem pileH_20 {w : Nat → Int32} {u : Nat} : ∀ k h, pileH w u k = some h → h ≤ 20 := by
  intro k
  induction k with
  | zero => intro h e; rw [← Option.some.inj e]; decide
  | succ k ih =>
    intro h e
    cases e0 : pileH w u k with
    | none =>
      have : pileH w u (k + 1) = none := by
        show (match pileH w u k with
          | none => none
          | some h => if w (u + k) = 12 then (if 1 ≤ h then some h else none) else if w (u + k) = 13 ∨ w (u + k) = 14 then (if 2 ≤ h then some (h - 1) else none) else if h < 20 then some (h + 1) else none) = none
        rw [e0]
      rw [this] at e
      exact absurd e (by simp)
    | some y =>
      have hy := ih y e0
      rw [pileH_st e0] at e
      by_cases c1 : w (u + k) = 12
      · rw [if_pos c1] at e
        by_cases c2 : 1 ≤ y
        · rw [if_pos c2] at e; rw [← Option.some.inj e]; exact hy
        · rw [if_neg c2] at e; exact absurd e (by simp)
      · rw [if_neg c1] at e
        by_cases c3 : w (u + k) = 13 ∨ w (u + k) = 14
        · rw [if_pos c3] at e
          by_cases c2 : 2 ≤ y
          · rw [if_pos c2] at e; rw [← Option.some.inj e]; omega
          · rw [if_neg c2] at e; exact absurd e (by simp)
        · rw [if_neg c3] at e
          by_cases c2 : y < 20
          · rw [if_pos c2] at e; rw [← Option.some.inj e]; omega
          · rw [if_neg c2] at e; exact absurd e (by simp)
theorem i800 (f b : Nat) : (800 : Int32) * nI f + nI b = nI (800 * f + b) := ixm 800 f b
theorem m2_lit : (-2 : Int32) = nI 4294967294 := by decide
theorem cm_12 {s r : Nat} (hs : s < 4) (hr : r < 3) : ¬ nI (3 * s + r) = (12 : Int32) ∧ ¬ nI (3 * s + r) = (13 : Int32) ∧ ¬ nI (3 * s + r) = (14 : Int32) := by
  refine ⟨fun e => ?_, fun e => ?_, fun e => ?_⟩
  · exact absurd ((nI_eq (by omega) (by decide)).mp (show nI (3 * s + r) = nI 12 from e)) (by omega)
  · exact absurd ((nI_eq (by omega) (by decide)).mp (show nI (3 * s + r) = nI 13 from e)) (by omega)
  · exact absurd ((nI_eq (by omega) (by decide)).mp (show nI (3 * s + r) = nI 14 from e)) (by omega)
theorem cm_16 {s r : Nat} (hs : s < 4) (hr : r < 3) : (¬ nI (16 * (9 + s) + r) = (8 : Int32) ∧ ¬ nI (16 * (9 + s) + r) = (7 : Int32) ∧ ¬ nI (16 * (9 + s) + r) = (6 : Int32)) ∧ nI (16 * (9 + s) + r) / (16 : Int32) - (9 : Int32) = nI s ∧ nI (16 * (9 + s) + r) - nI (16 * (9 + s) + r) / (16 : Int32) * (16 : Int32) = nI r := by
  refine ⟨⟨fun e => ?_, fun e => ?_, fun e => ?_⟩, ?_, ?_⟩
  · exact absurd ((nI_eq (by omega) (by decide)).mp (show nI (16 * (9 + s) + r) = nI 8 from e)) (by omega)
  · exact absurd ((nI_eq (by omega) (by decide)).mp (show nI (16 * (9 + s) + r) = nI 7 from e)) (by omega)
  · exact absurd ((nI_eq (by omega) (by decide)).mp (show nI (16 * (9 + s) + r) = nI 6 from e)) (by omega)
  · show nI (16 * (9 + s) + r) / nI 16 - nI 9 = nI s
    rw [pk_div (by omega) (by decide) (by decide), show (16 * (9 + s) + r) / 16 = 9 + s by omega, pk_sub (by omega)]
    exact congrArg nI (by omega)
  · show nI (16 * (9 + s) + r) - nI (16 * (9 + s) + r) / nI 16 * nI 16 = nI r
    rw [pk_rem (by omega) (by decide) (by decide)]
    exact congrArg nI (by omega)
theorem cm_3 {s r : Nat} (hs : s < 4) (hr : r < 3) : nI (3 * s + r) / (3 : Int32) = nI s ∧ nI (3 * s + r) - nI (3 * s + r) / (3 : Int32) * (3 : Int32) = nI r := by
  refine ⟨?_, ?_⟩
  · show nI (3 * s + r) / nI 3 = nI s
    rw [pk_div (by omega) (by decide) (by decide)]
    exact congrArg nI (by omega)
  · show nI (3 * s + r) - nI (3 * s + r) / nI 3 * nI 3 = nI r
    rw [pk_rem (by omega) (by decide) (by decide)]
    exact congrArg nI (by omega)
theorem n3ne : ¬ (3 : Int32) = 0 := by decide
theorem n16ne : ¬ (16 : Int32) = 0 := by decide
theorem e_h243 (F : Nat) (K : Mem → Int32 → Int32 → Int32 → Int32 → Option (Int32 × Mem)) {m : Mem} (hM : shM m) {b X h k s r : Nat} (hs : s < 4) (hr : r < 3) (hX : X < 12) (hk : k < 800) (v : Int32) : f_X11_holds_b243 F K 50 m (nI b) (nI X) (nI h) (nI k) (nI (16 * (9 + s) + r)) v = f_X11_holds_b325 F K 50 m (nI b) (nI X) (nI h) (nI k) (some 90) (nI h) (nI (tvN v r (mI m 83 (800 * X + k)))) := by
  have v1 := vp_nI (show 800 * X + k < 9600 by omega) (show 9600 < 2147483648 by decide)
  have n1 := nI_cl (show 800 * X + k < 2147483648 by omega)
  obtain ⟨-, -, e16⟩ := cm_16 hs hr
  obtain ⟨x, hx⟩ : ∃ x, mI m 83 (800 * X + k) = x := ⟨_, rfl⟩
  rw [hx]
  have R57 : mR m 50 57 = some 90 := by simp only [hM]
  have L0 : (nI 0 : Int32) = 0 := rfl
  have L1 : (nI 1 : Int32) = 1 := rfl
  rcases (show r = 0 ∨ r = 1 ∨ r = 2 by omega) with h0 | h0 | h0
  · have er : (nI r : Int32) = 0 := by rw [h0]; rfl
    by_cases q : v < x
    · have q2 : ¬ x ≤ v := Int32.not_le.mpr q
      have e : tvN v r x = 1 := by unfold tvN; rw [if_pos h0, if_pos q]
      rw [e, L1]
      simp only [f_X11_holds_b243, i800, hM, v1, n1, hx, n16ne, e16, er, q2, nx_eq, ck_true, br_true, br_false, bd_eq, de_eq, mN_sI_, mK_sI_, mL_sI_, mI_sI_ap, mJ_sI_, mR_sI_, mN_sJ_, mK_sJ_, mL_sJ_, mI_sJ_, mJ_sJ_ap, mR_sJ_, mN_sR_, mK_sR_, mL_sR_, mI_sR_, mJ_sR_, mR_sR_ap, Nat.reduceEqDiff, Nat.reduceAdd, ↓reduceIte, and_true, true_and, and_false, false_and, or_true, true_or, or_false, false_or, not_true_eq_false, not_false_eq_true, i10, i01, ii01, ii02, ii03, ii04, ii05, ii12, ii13, ii14, ii15, ii20, ii21, ii23, ii24, ii25, ii30, ii31, ii32, ii34, ii35, ii40, ii41, ii42, ii43, ii45, ii50, ii51, ii52, ii53, ii54, bi_z, Option.some.injEq, reduceCtorEq, Nat.reduceLeDiff]
    · have q2 : x ≤ v := Int32.not_lt.mp q
      have e : tvN v r x = 0 := by unfold tvN; rw [if_pos h0, if_neg q]
      rw [e, L0]
      simp only [f_X11_holds_b243, i800, hM, v1, n1, hx, n16ne, e16, er, q2, nx_eq, ck_true, br_true, br_false, bd_eq, de_eq, mN_sI_, mK_sI_, mL_sI_, mI_sI_ap, mJ_sI_, mR_sI_, mN_sJ_, mK_sJ_, mL_sJ_, mI_sJ_, mJ_sJ_ap, mR_sJ_, mN_sR_, mK_sR_, mL_sR_, mI_sR_, mJ_sR_, mR_sR_ap, Nat.reduceEqDiff, Nat.reduceAdd, ↓reduceIte, and_true, true_and, and_false, false_and, or_true, true_or, or_false, false_or, not_true_eq_false, not_false_eq_true, i10, i01, ii01, ii02, ii03, ii04, ii05, ii12, ii13, ii14, ii15, ii20, ii21, ii23, ii24, ii25, ii30, ii31, ii32, ii34, ii35, ii40, ii41, ii42, ii43, ii45, ii50, ii51, ii52, ii53, ii54, bi_z, Option.some.injEq, reduceCtorEq, Nat.reduceLeDiff]
  · have er : (nI r : Int32) = 1 := by rw [h0]; rfl
    by_cases q : x < v
    · have q2 : ¬ v ≤ x := Int32.not_le.mpr q
      have e : tvN v r x = 1 := by unfold tvN; rw [if_neg (by omega), if_pos h0, if_pos q]
      rw [e, L1]
      simp only [f_X11_holds_b243, i800, hM, v1, n1, hx, n16ne, e16, er, q2, nx_eq, ck_true, br_true, br_false, bd_eq, de_eq, mN_sI_, mK_sI_, mL_sI_, mI_sI_ap, mJ_sI_, mR_sI_, mN_sJ_, mK_sJ_, mL_sJ_, mI_sJ_, mJ_sJ_ap, mR_sJ_, mN_sR_, mK_sR_, mL_sR_, mI_sR_, mJ_sR_, mR_sR_ap, Nat.reduceEqDiff, Nat.reduceAdd, ↓reduceIte, and_true, true_and, and_false, false_and, or_true, true_or, or_false, false_or, not_true_eq_false, not_false_eq_true, i10, i01, ii01, ii02, ii03, ii04, ii05, ii12, ii13, ii14, ii15, ii20, ii21, ii23, ii24, ii25, ii30, ii31, ii32, ii34, ii35, ii40, ii41, ii42, ii43, ii45, ii50, ii51, ii52, ii53, ii54, bi_z, Option.some.injEq, reduceCtorEq, Nat.reduceLeDiff]
    · have q2 : v ≤ x := Int32.not_lt.mp q
      have e : tvN v r x = 0 := by unfold tvN; rw [if_neg (by omega), if_pos h0, if_neg q]
      rw [e, L0]
      simp only [f_X11_holds_b243, i800, hM, v1, n1, hx, n16ne, e16, er, q2, nx_eq, ck_true, br_true, br_false, bd_eq, de_eq, mN_sI_, mK_sI_, mL_sI_, mI_sI_ap, mJ_sI_, mR_sI_, mN_sJ_, mK_sJ_, mL_sJ_, mI_sJ_, mJ_sJ_ap, mR_sJ_, mN_sR_, mK_sR_, mL_sR_, mI_sR_, mJ_sR_, mR_sR_ap, Nat.reduceEqDiff, Nat.reduceAdd, ↓reduceIte, and_true, true_and, and_false, false_and, or_true, true_or, or_false, false_or, not_true_eq_false, not_false_eq_true, i10, i01, ii01, ii02, ii03, ii04, ii05, ii12, ii13, ii14, ii15, ii20, ii21, ii23, ii24, ii25, ii30, ii31, ii32, ii34, ii35, ii40, ii41, ii42, ii43, ii45, ii50, ii51, ii52, ii53, ii54, bi_z, Option.some.injEq, reduceCtorEq, Nat.reduceLeDiff]
  · have er : (nI r : Int32) = 2 := by rw [h0]; rfl
    by_cases q : v = x
    · have e : tvN v r x = 1 := by unfold tvN; rw [if_neg (by omega), if_neg (by omega), if_pos q]
      rw [e, L1]
      simp only [f_X11_holds_b243, i800, hM, v1, n1, hx, n16ne, e16, er, q, nx_eq, ck_true, br_true, br_false, bd_eq, de_eq, mN_sI_, mK_sI_, mL_sI_, mI_sI_ap, mJ_sI_, mR_sI_, mN_sJ_, mK_sJ_, mL_sJ_, mI_sJ_, mJ_sJ_ap, mR_sJ_, mN_sR_, mK_sR_, mL_sR_, mI_sR_, mJ_sR_, mR_sR_ap, Nat.reduceEqDiff, Nat.reduceAdd, ↓reduceIte, and_true, true_and, and_false, false_and, or_true, true_or, or_false, false_or, not_true_eq_false, not_false_eq_true, i10, i01, ii01, ii02, ii03, ii04, ii05, ii12, ii13, ii14, ii15, ii20, ii21, ii23, ii24, ii25, ii30, ii31, ii32, ii34, ii35, ii40, ii41, ii42, ii43, ii45, ii50, ii51, ii52, ii53, ii54, bi_z, Option.some.injEq, reduceCtorEq, Nat.reduceLeDiff]
    · have e : tvN v r x = 0 := by unfold tvN; rw [if_neg (by omega), if_neg (by omega), if_neg q]
      rw [e, L0]
      simp only [f_X11_holds_b243, i800, hM, v1, n1, hx, n16ne, e16, er, q, nx_eq, ck_true, br_true, br_false, bd_eq, de_eq, mN_sI_, mK_sI_, mL_sI_, mI_sI_ap, mJ_sI_, mR_sI_, mN_sJ_, mK_sJ_, mL_sJ_, mI_sJ_, mJ_sJ_ap, mR_sJ_, mN_sR_, mK_sR_, mL_sR_, mI_sR_, mJ_sR_, mR_sR_ap, Nat.reduceEqDiff, Nat.reduceAdd, ↓reduceIte, and_true, true_and, and_false, false_and, or_true, true_or, or_false, false_or, not_true_eq_false, not_false_eq_true, i10, i01, ii01, ii02, ii03, ii04, ii05, ii12, ii13, ii14, ii15, ii20, ii21, ii23, ii24, ii25, ii30, ii31, ii32, ii34, ii35, ii40, ii41, ii42, ii43, ii45, ii50, ii51, ii52, ii53, ii54, bi_z, Option.some.injEq, reduceCtorEq, Nat.reduceLeDiff]
theorem lp_holds (F : Nat) {c m : Mem} (hC : shC c) (hM : shM m) {N b l nw u z : Nat} (hN : N ≤ 24) (h6 : mI c 26 6 = nI N) (hb : b < N) (k9 : mI c 29 = mI m 54) (k10 : mI c 30 = mI m 55) (k11 : mI c 31 = mI m 56) (hl : l < 6) (hw : nw ≤ 1) (hz : z ≤ 400) (huz : u ≤ z) (e21 : mI c 21 l = nI z) (e81 : mI m 81 (6 * nw + l) = nI (z - u)) (hp : pileH (mI c 24) u (z - u) = some 1) (hs : ∀ k, k < z - u → Rstep (mI c 24 (u + k)) (mI m 82 (800 * (6 * nw + l) + k)) ∧ mI c 25 (u + k) = mI m 83 (800 * (6 * nw + l) + k)) :
    ∀ n k h (t : Nat → Nat) (g : Nat → Int32) M, k + n = z - u → pileH (mI c 24) u k = some h → (∀ i, i < h → g i = nI (t i) ∧ t i ≤ 1) → n < M → ∃ r g', f_X0_holds_b21 F 17 M c (nI l) (some 26) (nI b) (nI (pv h t)) (nI (u + k)) = some (r, c) ∧ f_X11_holds_b28 F 50 M (wI m 90 g) (nI b) (nI (6 * nw + l)) (nI h) (nI k) = some (r, wI m 90 g') ∧ (r = 0 ∨ r = 1) := by
  have vl1 := vp_nI hl (show 6 < 2147483648 by decide)
  have nl1 := nI_cl (show l < 2147483648 by omega)
  have vX := vp_nI (show 6 * nw + l < 12 by omega) (show 12 < 2147483648 by decide)
  have nX := nI_cl (show 6 * nw + l < 2147483648 by omega)
  have w0 : vp_in (0 : Int32) 800 := vp_nI (n := 0) (by decide) (by decide)
  have y0 : (0 : Int32).toNatClampNeg = 0 := nI_cl (n := 0) (by decide)
  intro n
  induction n with
  | zero =>
    intro k h t g M hk hh hg hM2
    obtain ⟨M, rfl⟩ : ∃ M', M = M' + 1 := ⟨M - 1, by omega⟩
    obtain rfl : k = z - u := by omega
    obtain rfl : h = 1 := (Option.some.inj (hp.symm.trans hh)).symm
    obtain ⟨g0, t0⟩ := hg 0 (by decide)
    have q1 : nI z ≤ nI (u + (z - u)) := nI_le (by omega) (by omega)
    have q2 : nI (z - u) ≤ nI (z - u) := nI_le (Nat.le_refl _) (by omega)
    have e81' : mI (wI m 90 g) 81 (6 * nw + l) = nI (z - u) := by rw [mI_wI_o (by decide)]; exact e81
    have e90 : mI (wI m 90 g) 90 = g := mI_wI_e
    have ep : pv 1 t = 2 * 1 + t 0 := rfl
    rcases b01 t0 with h0 | h0
    · have g00 : g 0 = 0 := by rw [g0, h0]; rfl
      have ea : ¬ (nI (pv 1 t) &&& (1 : Int32)) = 1 := by rw [ep, h0]; decide
      have bz0 : bz (0 : Int32) := Or.inl rfl
      refine ⟨0, g, ?_, ?_, Or.inl rfl⟩
      · show f_X0_holds_b21_it F (f_X0_holds_b21 F 17 M) 17 c (nI l) (some 26) (nI b) (nI (pv 1 t)) (nI (u + (z - u))) = _
        simp only [f_X0_holds_b21_it, hC, vl1, nl1, e21, q1, ea, nx_eq, ck_true, br_true, br_false, bd_eq, de_eq, mN_sI_, mK_sI_, mL_sI_, mI_sI_ap, mJ_sI_, mR_sI_, mN_sJ_, mK_sJ_, mL_sJ_, mI_sJ_, mJ_sJ_ap, mR_sJ_, mN_sR_, mK_sR_, mL_sR_, mI_sR_, mJ_sR_, mR_sR_ap, Nat.reduceEqDiff, Nat.reduceAdd, ↓reduceIte, and_true, true_and, and_false, false_and, or_true, true_or, or_false, false_or, not_true_eq_false, not_false_eq_true, i10, i01, ii01, ii02, ii03, ii04, ii05, ii12, ii13, ii14, ii15, ii20, ii21, ii23, ii24, ii25, ii30, ii31, ii32, ii34, ii35, ii40, ii41, ii42, ii43, ii45, ii50, ii51, ii52, ii53, ii54, bi_z, Option.some.injEq, reduceCtorEq, Nat.reduceLeDiff]
      · show f_X11_holds_b28_it F (f_X11_holds_b28 F 50 M) 50 (wI m 90 g) (nI b) (nI (6 * nw + l)) (nI 1) (nI (z - u)) = _
        simp only [f_X11_holds_b28_it, mK_wI_, mL_wI_, mR_wI_, hM, vX, nX, e81', q2, w0, y0, e90, g00, bz0, nx_eq, ck_true, br_true, br_false, bd_eq, de_eq, mN_sI_, mK_sI_, mL_sI_, mI_sI_ap, mJ_sI_, mR_sI_, mN_sJ_, mK_sJ_, mL_sJ_, mI_sJ_, mJ_sJ_ap, mR_sJ_, mN_sR_, mK_sR_, mL_sR_, mI_sR_, mJ_sR_, mR_sR_ap, Nat.reduceEqDiff, Nat.reduceAdd, ↓reduceIte, and_true, true_and, and_false, false_and, or_true, true_or, or_false, false_or, not_true_eq_false, not_false_eq_true, i10, i01, ii01, ii02, ii03, ii04, ii05, ii12, ii13, ii14, ii15, ii20, ii21, ii23, ii24, ii25, ii30, ii31, ii32, ii34, ii35, ii40, ii41, ii42, ii43, ii45, ii50, ii51, ii52, ii53, ii54, bi_z, Option.some.injEq, reduceCtorEq, Nat.reduceLeDiff]
    · have g00 : g 0 = 1 := by rw [g0, h0]; rfl
      have ea : (nI (pv 1 t) &&& (1 : Int32)) = 1 := by rw [ep, h0]; decide
      have bz1 : bz (1 : Int32) := Or.inr rfl
      refine ⟨1, g, ?_, ?_, Or.inr rfl⟩
      · show f_X0_holds_b21_it F (f_X0_holds_b21 F 17 M) 17 c (nI l) (some 26) (nI b) (nI (pv 1 t)) (nI (u + (z - u))) = _
        simp only [f_X0_holds_b21_it, hC, vl1, nl1, e21, q1, ea, nx_eq, ck_true, br_true, br_false, bd_eq, de_eq, mN_sI_, mK_sI_, mL_sI_, mI_sI_ap, mJ_sI_, mR_sI_, mN_sJ_, mK_sJ_, mL_sJ_, mI_sJ_, mJ_sJ_ap, mR_sJ_, mN_sR_, mK_sR_, mL_sR_, mI_sR_, mJ_sR_, mR_sR_ap, Nat.reduceEqDiff, Nat.reduceAdd, ↓reduceIte, and_true, true_and, and_false, false_and, or_true, true_or, or_false, false_or, not_true_eq_false, not_false_eq_true, i10, i01, ii01, ii02, ii03, ii04, ii05, ii12, ii13, ii14, ii15, ii20, ii21, ii23, ii24, ii25, ii30, ii31, ii32, ii34, ii35, ii40, ii41, ii42, ii43, ii45, ii50, ii51, ii52, ii53, ii54, bi_z, Option.some.injEq, reduceCtorEq, Nat.reduceLeDiff]
      · show f_X11_holds_b28_it F (f_X11_holds_b28 F 50 M) 50 (wI m 90 g) (nI b) (nI (6 * nw + l)) (nI 1) (nI (z - u)) = _
        simp only [f_X11_holds_b28_it, mK_wI_, mL_wI_, mR_wI_, hM, vX, nX, e81', q2, w0, y0, e90, g00, bz1, nx_eq, ck_true, br_true, br_false, bd_eq, de_eq, mN_sI_, mK_sI_, mL_sI_, mI_sI_ap, mJ_sI_, mR_sI_, mN_sJ_, mK_sJ_, mL_sJ_, mI_sJ_, mJ_sJ_ap, mR_sJ_, mN_sR_, mK_sR_, mL_sR_, mI_sR_, mJ_sR_, mR_sR_ap, Nat.reduceEqDiff, Nat.reduceAdd, ↓reduceIte, and_true, true_and, and_false, false_and, or_true, true_or, or_false, false_or, not_true_eq_false, not_false_eq_true, i10, i01, ii01, ii02, ii03, ii04, ii05, ii12, ii13, ii14, ii15, ii20, ii21, ii23, ii24, ii25, ii30, ii31, ii32, ii34, ii35, ii40, ii41, ii42, ii43, ii45, ii50, ii51, ii52, ii53, ii54, bi_z, Option.some.injEq, reduceCtorEq, Nat.reduceLeDiff]
  | succ n ih =>
    intro k h t g M hk hh hg hM2
    obtain ⟨M, rfl⟩ : ∃ M', M = M' + 1 := ⟨M - 1, by omega⟩
    have hkz : k < z - u := by omega
    obtain ⟨hst, hnum⟩ := hs k hkz
    obtain ⟨h', hh'⟩ := pileH_pre (mI c 24) u n (k + 1) 1 (by rw [show k + 1 + n = z - u by omega]; exact hp)
    have h20 := pileH_20 k h hh
    have hst2 := pileH_st hh
    rw [hh'] at hst2
    have q1 : ¬ nI z ≤ nI (u + k) := nI_ge (by omega) (by omega)
    have q2 : ¬ nI (z - u) ≤ nI k := nI_ge (by omega) (by omega)
    have vk := vp_nI (show u + k < 400 by omega) (show 400 < 2147483648 by decide)
    have nk := nI_cl (show u + k < 2147483648 by omega)
    have vm := vp_nI (show 800 * (6 * nw + l) + k < 9600 by omega) (show 9600 < 2147483648 by decide)
    have nm := nI_cl (show 800 * (6 * nw + l) + k < 2147483648 by omega)
    have e81' : mI (wI m 90 g) 81 (6 * nw + l) = nI (z - u) := by rw [mI_wI_o (by decide)]; exact e81
    have e82 : mI (wI m 90 g) 82 = mI m 82 := mI_wI_o (by decide)
    have e90 : mI (wI m 90 g) 90 = g := mI_wI_e
    have hc0 : ∀ r, f_X0_holds_b21_it F (f_X0_holds_b21 F 17 M) 17 c (nI l) (some 26) (nI b) (nI (pv h t)) (nI (u + k)) = r → f_X0_holds_b21 F 17 (M + 1) c (nI l) (some 26) (nI b) (nI (pv h t)) (nI (u + k)) = r := fun r e => e
    have hm0 : ∀ r, f_X11_holds_b28_it F (f_X11_holds_b28 F 50 M) 50 (wI m 90 g) (nI b) (nI (6 * nw + l)) (nI h) (nI k) = r → f_X11_holds_b28 F 50 (M + 1) (wI m 90 g) (nI b) (nI (6 * nw + l)) (nI h) (nI k) = r := fun r e => e
    rcases hst with ⟨x1, x2⟩ | ⟨x1, x2⟩ | ⟨x1, x2⟩ | ⟨s, r0, hs4, hr3, x1, x2⟩
    · rw [if_pos x1] at hst2
      by_cases h1 : 1 ≤ h
      · rw [if_pos h1] at hst2
        obtain rfl : h' = h := Option.some.inj hst2
        obtain ⟨j, rfl⟩ : ∃ j, h' = j + 1 := ⟨h' - 1, by omega⟩
        obtain ⟨gj, tj⟩ := hg j (by omega)
        have vj := vp_nI (show j < 800 by omega) (show 800 < 2147483648 by decide)
        have nj := nI_cl (show j < 2147483648 by omega)
        have ex : nI (pv (j + 1) t) ^^^ (1 : Int32) = nI (pv (j + 1) (va_up t j (1 - t j))) := by
          rw [pv_up, show (1 : Int32) = nI 1 from rfl, nI_xor]
          exact congrArg nI (nb_xor _ tj)
        obtain ⟨r, g', r1, r2, r3⟩ := ih (k + 1) (j + 1) (va_up t j (1 - t j)) (va_up g j (nI (1 - t j))) M (by omega) hh' (fun i hi => by
          by_cases e : i = j
          · rw [e, va_up_self, va_up_self]; exact ⟨rfl, by omega⟩
          · rw [va_up_ne _ _ e, va_up_ne _ _ e]; exact hg i hi) (by omega)
        refine ⟨r, g', hc0 _ ?_, hm0 _ ?_, r3⟩
        · simp only [f_X0_holds_b21_it, f_X0_holds_b142, hC, vl1, nl1, e21, q1, vk, nk, x1, ex, nI_1, nx_eq, ck_true, br_true, br_false, bd_eq, de_eq, mN_sI_, mK_sI_, mL_sI_, mI_sI_ap, mJ_sI_, mR_sI_, mN_sJ_, mK_sJ_, mL_sJ_, mI_sJ_, mJ_sJ_ap, mR_sJ_, mN_sR_, mK_sR_, mL_sR_, mI_sR_, mJ_sR_, mR_sR_ap, Nat.reduceEqDiff, Nat.reduceAdd, ↓reduceIte, and_true, true_and, and_false, false_and, or_true, true_or, or_false, false_or, not_true_eq_false, not_false_eq_true, i10, i01, ii01, ii02, ii03, ii04, ii05, ii12, ii13, ii14, ii15, ii20, ii21, ii23, ii24, ii25, ii30, ii31, ii32, ii34, ii35, ii40, ii41, ii42, ii43, ii45, ii50, ii51, ii52, ii53, ii54, bi_z, Option.some.injEq, reduceCtorEq, Nat.reduceLeDiff]
          exact r1
        · rcases b01 tj with h0 | h0
          · have g00 : g j = 0 := by rw [gj, h0]; rfl
            rw [h0] at r2
            have r2' : f_X11_holds_b28 F 50 M (wI m 90 (va_up g j 1)) (nI b) (nI (6 * nw + l)) (nI (j + 1)) (nI (k + 1)) = some (r, wI m 90 g') := r2
            simp only [f_X11_holds_b28_it, f_X11_holds_b86, f_X11_holds_b329, mK_wI_, mL_wI_, mR_wI_, hM, vX, nX, e81', q2, i800, vm, nm, e82, x2, nI_pred, vj, nj, e90, g00, vp_nar_b1, sI_wI, nI_1, r2', nx_eq, ck_true, br_true, br_false, bd_eq, de_eq, mN_sI_, mK_sI_, mL_sI_, mI_sI_ap, mJ_sI_, mR_sI_, mN_sJ_, mK_sJ_, mL_sJ_, mI_sJ_, mJ_sJ_ap, mR_sJ_, mN_sR_, mK_sR_, mL_sR_, mI_sR_, mJ_sR_, mR_sR_ap, Nat.reduceEqDiff, Nat.reduceAdd, ↓reduceIte, and_true, true_and, and_false, false_and, or_true, true_or, or_false, false_or, not_true_eq_false, not_false_eq_true, i10, i01, ii01, ii02, ii03, ii04, ii05, ii12, ii13, ii14, ii15, ii20, ii21, ii23, ii24, ii25, ii30, ii31, ii32, ii34, ii35, ii40, ii41, ii42, ii43, ii45, ii50, ii51, ii52, ii53, ii54, bi_z, Option.some.injEq, reduceCtorEq, Nat.reduceLeDiff]
          · have g00 : g j = 1 := by rw [gj, h0]; rfl
            rw [h0] at r2
            have r2' : f_X11_holds_b28 F 50 M (wI m 90 (va_up g j 0)) (nI b) (nI (6 * nw + l)) (nI (j + 1)) (nI (k + 1)) = some (r, wI m 90 g') := r2
            simp only [f_X11_holds_b28_it, f_X11_holds_b86, f_X11_holds_b329, mK_wI_, mL_wI_, mR_wI_, hM, vX, nX, e81', q2, i800, vm, nm, e82, x2, nI_pred, vj, nj, e90, g00, vp_nar_b0, sI_wI, nI_1, r2', nx_eq, ck_true, br_true, br_false, bd_eq, de_eq, mN_sI_, mK_sI_, mL_sI_, mI_sI_ap, mJ_sI_, mR_sI_, mN_sJ_, mK_sJ_, mL_sJ_, mI_sJ_, mJ_sJ_ap, mR_sJ_, mN_sR_, mK_sR_, mL_sR_, mI_sR_, mJ_sR_, mR_sR_ap, Nat.reduceEqDiff, Nat.reduceAdd, ↓reduceIte, and_true, true_and, and_false, false_and, or_true, true_or, or_false, false_or, not_true_eq_false, not_false_eq_true, i10, i01, ii01, ii02, ii03, ii04, ii05, ii12, ii13, ii14, ii15, ii20, ii21, ii23, ii24, ii25, ii30, ii31, ii32, ii34, ii35, ii40, ii41, ii42, ii43, ii45, ii50, ii51, ii52, ii53, ii54, bi_z, Option.some.injEq, reduceCtorEq, Nat.reduceLeDiff]
      · rw [if_neg h1] at hst2
        exact absurd hst2 (by simp)
    · have n12 : ¬ mI c 24 (u + k) = 12 := by rw [x1]; decide
      rw [if_neg n12, if_pos (Or.inl x1)] at hst2
      by_cases h1 : 2 ≤ h
      · rw [if_pos h1] at hst2
        obtain ⟨j, rfl⟩ : ∃ j, h = j + 2 := ⟨h - 2, by omega⟩
        obtain rfl : h' = j + 1 := Option.some.inj hst2
        obtain ⟨gj, tj⟩ := hg j (by omega)
        obtain ⟨gi, ti⟩ := hg (j + 1) (by omega)
        have vj := vp_nI (show j < 800 by omega) (show 800 < 2147483648 by decide)
        have nj := nI_cl (show j < 2147483648 by omega)
        have vi := vp_nI (show j + 1 < 800 by omega) (show 800 < 2147483648 by decide)
        have ni := nI_cl (show j + 1 < 2147483648 by omega)
        have pl := pv_lt j t (fun i hi => (hg i (by omega)).2)
        have pl2 : 2 ^ (j + 1) ≤ 2 ^ 21 := Nat.pow_le_pow_right (by decide) (by omega)
        have ex : (nI (pv (j + 2) t) >>> ((1 : Int32) &&& 31)) &&& (nI (pv (j + 2) t) ||| (-2 : Int32)) = nI (pv (j + 1) (va_up t j (t j * t (j + 1)))) := by
          have e2 : pv (j + 2) t = 2 * (2 * pv j t + t j) + t (j + 1) := rfl
          rw [pv_up, e2, pk_shrN (by omega) ((1 : Int32) &&& 31) 1 (by decide), m2_lit, nI_or, nI_and, show (2 * (2 * pv j t + t j) + t (j + 1)) / 2 ^ 1 = 2 * pv j t + t j by omega, nb_and (pv j t) (2 * pv j t + t j) tj ti (by omega)]
        obtain ⟨r, g', r1, r2, r3⟩ := ih (k + 1) (j + 1) (va_up t j (t j * t (j + 1))) (va_up g j (nI (t j * t (j + 1)))) M (by omega) hh' (fun i hi => by
          by_cases e : i = j
          · rw [e, va_up_self, va_up_self]; exact ⟨rfl, Nat.mul_le_mul tj ti⟩
          · rw [va_up_ne _ _ e, va_up_ne _ _ e]; exact hg i (by omega)) (by omega)
        refine ⟨r, g', hc0 _ ?_, hm0 _ ?_, r3⟩
        · have a1 : ((13 : Int32) = 12) = False := eq_false (by decide)
          simp only [f_X0_holds_b21_it, f_X0_holds_b142, hC, vl1, nl1, e21, q1, vk, nk, x1, a1, ex, nI_1, nx_eq, ck_true, br_true, br_false, bd_eq, de_eq, mN_sI_, mK_sI_, mL_sI_, mI_sI_ap, mJ_sI_, mR_sI_, mN_sJ_, mK_sJ_, mL_sJ_, mI_sJ_, mJ_sJ_ap, mR_sJ_, mN_sR_, mK_sR_, mL_sR_, mI_sR_, mJ_sR_, mR_sR_ap, Nat.reduceEqDiff, Nat.reduceAdd, ↓reduceIte, and_true, true_and, and_false, false_and, or_true, true_or, or_false, false_or, not_true_eq_false, not_false_eq_true, i10, i01, ii01, ii02, ii03, ii04, ii05, ii12, ii13, ii14, ii15, ii20, ii21, ii23, ii24, ii25, ii30, ii31, ii32, ii34, ii35, ii40, ii41, ii42, ii43, ii45, ii50, ii51, ii52, ii53, ii54, bi_z, Option.some.injEq, reduceCtorEq, Nat.reduceLeDiff]
          exact r1
        · have a1 : ((7 : Int32) = 8) = False := eq_false (by decide)
          have m1 : nI (j + 2) + (-1 : Int32) = nI (j + 1) := pk_m1 (j + 1)
          have m2 : nI (j + 1) - (1 : Int32) = nI j := nI_pred j
          rcases b01 tj with h0 | h0
          · have g00 : g j = 0 := by rw [gj, h0]; rfl
            rw [h0, Nat.zero_mul] at r2
            have r2' : f_X11_holds_b28 F 50 M (wI m 90 (va_up g j 0)) (nI b) (nI (6 * nw + l)) (nI (j + 1)) (nI (k + 1)) = some (r, wI m 90 g') := r2
            simp only [f_X11_holds_b28_it, f_X11_holds_b134, f_X11_holds_b135, f_X11_holds_b329, mK_wI_, mL_wI_, mR_wI_, hM, vX, nX, e81', q2, i800, vm, nm, e82, x2, a1, m1, m2, vj, nj, e90, g00, vp_nar_b0, sI_wI, nI_1, r2', nx_eq, ck_true, br_true, br_false, bd_eq, de_eq, mN_sI_, mK_sI_, mL_sI_, mI_sI_ap, mJ_sI_, mR_sI_, mN_sJ_, mK_sJ_, mL_sJ_, mI_sJ_, mJ_sJ_ap, mR_sJ_, mN_sR_, mK_sR_, mL_sR_, mI_sR_, mJ_sR_, mR_sR_ap, Nat.reduceEqDiff, Nat.reduceAdd, ↓reduceIte, and_true, true_and, and_false, false_and, or_true, true_or, or_false, false_or, not_true_eq_false, not_false_eq_true, i10, i01, ii01, ii02, ii03, ii04, ii05, ii12, ii13, ii14, ii15, ii20, ii21, ii23, ii24, ii25, ii30, ii31, ii32, ii34, ii35, ii40, ii41, ii42, ii43, ii45, ii50, ii51, ii52, ii53, ii54, bi_z, Option.some.injEq, reduceCtorEq, Nat.reduceLeDiff]
          · have g00 : g j = 1 := by rw [gj, h0]; rfl
            rcases b01 ti with i0 | i0
            · have g01 : g (j + 1) = 0 := by rw [gi, i0]; rfl
              rw [h0, i0] at r2
              have r2' : f_X11_holds_b28 F 50 M (wI m 90 (va_up g j 0)) (nI b) (nI (6 * nw + l)) (nI (j + 1)) (nI (k + 1)) = some (r, wI m 90 g') := r2
              simp only [f_X11_holds_b28_it, f_X11_holds_b134, f_X11_holds_b135, f_X11_holds_b329, mK_wI_, mL_wI_, mR_wI_, hM, vX, nX, e81', q2, i800, vm, nm, e82, x2, a1, m1, m2, vj, nj, vi, ni, e90, g00, g01, vp_nar_b0, sI_wI, nI_1, r2', nx_eq, ck_true, br_true, br_false, bd_eq, de_eq, mN_sI_, mK_sI_, mL_sI_, mI_sI_ap, mJ_sI_, mR_sI_, mN_sJ_, mK_sJ_, mL_sJ_, mI_sJ_, mJ_sJ_ap, mR_sJ_, mN_sR_, mK_sR_, mL_sR_, mI_sR_, mJ_sR_, mR_sR_ap, Nat.reduceEqDiff, Nat.reduceAdd, ↓reduceIte, and_true, true_and, and_false, false_and, or_true, true_or, or_false, false_or, not_true_eq_false, not_false_eq_true, i10, i01, ii01, ii02, ii03, ii04, ii05, ii12, ii13, ii14, ii15, ii20, ii21, ii23, ii24, ii25, ii30, ii31, ii32, ii34, ii35, ii40, ii41, ii42, ii43, ii45, ii50, ii51, ii52, ii53, ii54, bi_z, Option.some.injEq, reduceCtorEq, Nat.reduceLeDiff]
            · have g01 : g (j + 1) = 1 := by rw [gi, i0]; rfl
              rw [h0, i0] at r2
              have r2' : f_X11_holds_b28 F 50 M (wI m 90 (va_up g j 1)) (nI b) (nI (6 * nw + l)) (nI (j + 1)) (nI (k + 1)) = some (r, wI m 90 g') := r2
              simp only [f_X11_holds_b28_it, f_X11_holds_b134, f_X11_holds_b135, f_X11_holds_b329, mK_wI_, mL_wI_, mR_wI_, hM, vX, nX, e81', q2, i800, vm, nm, e82, x2, a1, m1, m2, vj, nj, vi, ni, e90, g00, g01, vp_nar_b1, sI_wI, nI_1, r2', nx_eq, ck_true, br_true, br_false, bd_eq, de_eq, mN_sI_, mK_sI_, mL_sI_, mI_sI_ap, mJ_sI_, mR_sI_, mN_sJ_, mK_sJ_, mL_sJ_, mI_sJ_, mJ_sJ_ap, mR_sJ_, mN_sR_, mK_sR_, mL_sR_, mI_sR_, mJ_sR_, mR_sR_ap, Nat.reduceEqDiff, Nat.reduceAdd, ↓reduceIte, and_true, true_and, and_false, false_and, or_true, true_or, or_false, false_or, not_true_eq_false, not_false_eq_true, i10, i01, ii01, ii02, ii03, ii04, ii05, ii12, ii13, ii14, ii15, ii20, ii21, ii23, ii24, ii25, ii30, ii31, ii32, ii34, ii35, ii40, ii41, ii42, ii43, ii45, ii50, ii51, ii52, ii53, ii54, bi_z, Option.some.injEq, reduceCtorEq, Nat.reduceLeDiff]
      · rw [if_neg h1] at hst2
        exact absurd hst2 (by simp)
    · have n12 : ¬ mI c 24 (u + k) = 12 := by rw [x1]; decide
      rw [if_neg n12, if_pos (Or.inr x1)] at hst2
      by_cases h1 : 2 ≤ h
      · rw [if_pos h1] at hst2
        obtain ⟨j, rfl⟩ : ∃ j, h = j + 2 := ⟨h - 2, by omega⟩
        obtain rfl : h' = j + 1 := Option.some.inj hst2
        obtain ⟨gj, tj⟩ := hg j (by omega)
        obtain ⟨gi, ti⟩ := hg (j + 1) (by omega)
        have vj := vp_nI (show j < 800 by omega) (show 800 < 2147483648 by decide)
        have nj := nI_cl (show j < 2147483648 by omega)
        have vi := vp_nI (show j + 1 < 800 by omega) (show 800 < 2147483648 by decide)
        have ni := nI_cl (show j + 1 < 2147483648 by omega)
        have pl := pv_lt j t (fun i hi => (hg i (by omega)).2)
        have pl2 : 2 ^ (j + 1) ≤ 2 ^ 21 := Nat.pow_le_pow_right (by decide) (by omega)
        have ex : (nI (pv (j + 2) t) >>> ((1 : Int32) &&& 31)) ||| (nI (pv (j + 2) t) &&& (1 : Int32)) = nI (pv (j + 1) (va_up t j (if t j = 1 ∨ t (j + 1) = 1 then 1 else 0))) := by
          have e2 : pv (j + 2) t = 2 * (2 * pv j t + t j) + t (j + 1) := rfl
          rw [pv_up, e2, pk_shrN (by omega) ((1 : Int32) &&& 31) 1 (by decide), pk_andN (by omega) 1 (by decide), nI_or, show (2 * (2 * pv j t + t j) + t (j + 1)) / 2 ^ 1 = 2 * pv j t + t j by omega, show (2 * (2 * pv j t + t j) + t (j + 1)) % 2 ^ 1 = t (j + 1) by omega, nb_or (pv j t) tj ti]
        obtain ⟨r, g', r1, r2, r3⟩ := ih (k + 1) (j + 1) (va_up t j (if t j = 1 ∨ t (j + 1) = 1 then 1 else 0)) (va_up g j (nI (if t j = 1 ∨ t (j + 1) = 1 then 1 else 0))) M (by omega) hh' (fun i hi => by
          by_cases e : i = j
          · rw [e, va_up_self, va_up_self]
            refine ⟨rfl, ?_⟩
            by_cases o : t j = 1 ∨ t (j + 1) = 1
            · rw [if_pos o]; decide
            · rw [if_neg o]; decide
          · rw [va_up_ne _ _ e, va_up_ne _ _ e]; exact hg i (by omega)) (by omega)
        refine ⟨r, g', hc0 _ ?_, hm0 _ ?_, r3⟩
        · have a1 : ((14 : Int32) = 12) = False := eq_false (by decide)
          have a2 : ((14 : Int32) = 13) = False := eq_false (by decide)
          simp only [f_X0_holds_b21_it, f_X0_holds_b142, hC, vl1, nl1, e21, q1, vk, nk, x1, a1, a2, ex, nI_1, nx_eq, ck_true, br_true, br_false, bd_eq, de_eq, mN_sI_, mK_sI_, mL_sI_, mI_sI_ap, mJ_sI_, mR_sI_, mN_sJ_, mK_sJ_, mL_sJ_, mI_sJ_, mJ_sJ_ap, mR_sJ_, mN_sR_, mK_sR_, mL_sR_, mI_sR_, mJ_sR_, mR_sR_ap, Nat.reduceEqDiff, Nat.reduceAdd, ↓reduceIte, and_true, true_and, and_false, false_and, or_true, true_or, or_false, false_or, not_true_eq_false, not_false_eq_true, i10, i01, ii01, ii02, ii03, ii04, ii05, ii12, ii13, ii14, ii15, ii20, ii21, ii23, ii24, ii25, ii30, ii31, ii32, ii34, ii35, ii40, ii41, ii42, ii43, ii45, ii50, ii51, ii52, ii53, ii54, bi_z, Option.some.injEq, reduceCtorEq, Nat.reduceLeDiff]
          exact r1
        · have a1 : ((6 : Int32) = 8) = False := eq_false (by decide)
          have a2 : ((6 : Int32) = 7) = False := eq_false (by decide)
          have m1 : nI (j + 2) + (-1 : Int32) = nI (j + 1) := pk_m1 (j + 1)
          have m2 : nI (j + 1) - (1 : Int32) = nI j := nI_pred j
          rcases b01 tj with h0 | h0
          · have g00 : g j = 0 := by rw [gj, h0]; rfl
            rcases b01 ti with i0 | i0
            · have g01 : g (j + 1) = 0 := by rw [gi, i0]; rfl
              rw [if_neg (show ¬ (t j = 1 ∨ t (j + 1) = 1) by omega)] at r2
              have r2' : f_X11_holds_b28 F 50 M (wI m 90 (va_up g j 0)) (nI b) (nI (6 * nw + l)) (nI (j + 1)) (nI (k + 1)) = some (r, wI m 90 g') := r2
              simp only [f_X11_holds_b28_it, f_X11_holds_b184, f_X11_holds_b179, f_X11_holds_b329, mK_wI_, mL_wI_, mR_wI_, hM, vX, nX, e81', q2, i800, vm, nm, e82, x2, a1, a2, m1, m2, vj, nj, vi, ni, e90, g00, g01, vp_nar_b0, sI_wI, nI_1, r2', nx_eq, ck_true, br_true, br_false, bd_eq, de_eq, mN_sI_, mK_sI_, mL_sI_, mI_sI_ap, mJ_sI_, mR_sI_, mN_sJ_, mK_sJ_, mL_sJ_, mI_sJ_, mJ_sJ_ap, mR_sJ_, mN_sR_, mK_sR_, mL_sR_, mI_sR_, mJ_sR_, mR_sR_ap, Nat.reduceEqDiff, Nat.reduceAdd, ↓reduceIte, and_true, true_and, and_false, false_and, or_true, true_or, or_false, false_or, not_true_eq_false, not_false_eq_true, i10, i01, ii01, ii02, ii03, ii04, ii05, ii12, ii13, ii14, ii15, ii20, ii21, ii23, ii24, ii25, ii30, ii31, ii32, ii34, ii35, ii40, ii41, ii42, ii43, ii45, ii50, ii51, ii52, ii53, ii54, bi_z, Option.some.injEq, reduceCtorEq, Nat.reduceLeDiff]
            · have g01 : g (j + 1) = 1 := by rw [gi, i0]; rfl
              rw [if_pos (show t j = 1 ∨ t (j + 1) = 1 by omega)] at r2
              have r2' : f_X11_holds_b28 F 50 M (wI m 90 (va_up g j 1)) (nI b) (nI (6 * nw + l)) (nI (j + 1)) (nI (k + 1)) = some (r, wI m 90 g') := r2
              simp only [f_X11_holds_b28_it, f_X11_holds_b184, f_X11_holds_b179, f_X11_holds_b329, mK_wI_, mL_wI_, mR_wI_, hM, vX, nX, e81', q2, i800, vm, nm, e82, x2, a1, a2, m1, m2, vj, nj, vi, ni, e90, g00, g01, vp_nar_b1, sI_wI, nI_1, r2', nx_eq, ck_true, br_true, br_false, bd_eq, de_eq, mN_sI_, mK_sI_, mL_sI_, mI_sI_ap, mJ_sI_, mR_sI_, mN_sJ_, mK_sJ_, mL_sJ_, mI_sJ_, mJ_sJ_ap, mR_sJ_, mN_sR_, mK_sR_, mL_sR_, mI_sR_, mJ_sR_, mR_sR_ap, Nat.reduceEqDiff, Nat.reduceAdd, ↓reduceIte, and_true, true_and, and_false, false_and, or_true, true_or, or_false, false_or, not_true_eq_false, not_false_eq_true, i10, i01, ii01, ii02, ii03, ii04, ii05, ii12, ii13, ii14, ii15, ii20, ii21, ii23, ii24, ii25, ii30, ii31, ii32, ii34, ii35, ii40, ii41, ii42, ii43, ii45, ii50, ii51, ii52, ii53, ii54, bi_z, Option.some.injEq, reduceCtorEq, Nat.reduceLeDiff]
          · have g00 : g j = 1 := by rw [gj, h0]; rfl
            rw [if_pos (show t j = 1 ∨ t (j + 1) = 1 by omega)] at r2
            have r2' : f_X11_holds_b28 F 50 M (wI m 90 (va_up g j 1)) (nI b) (nI (6 * nw + l)) (nI (j + 1)) (nI (k + 1)) = some (r, wI m 90 g') := r2
            simp only [f_X11_holds_b28_it, f_X11_holds_b184, f_X11_holds_b179, f_X11_holds_b329, mK_wI_, mL_wI_, mR_wI_, hM, vX, nX, e81', q2, i800, vm, nm, e82, x2, a1, a2, m1, m2, vj, nj, e90, g00, vp_nar_b1, sI_wI, nI_1, r2', nx_eq, ck_true, br_true, br_false, bd_eq, de_eq, mN_sI_, mK_sI_, mL_sI_, mI_sI_ap, mJ_sI_, mR_sI_, mN_sJ_, mK_sJ_, mL_sJ_, mI_sJ_, mJ_sJ_ap, mR_sJ_, mN_sR_, mK_sR_, mL_sR_, mI_sR_, mJ_sR_, mR_sR_ap, Nat.reduceEqDiff, Nat.reduceAdd, ↓reduceIte, and_true, true_and, and_false, false_and, or_true, true_or, or_false, false_or, not_true_eq_false, not_false_eq_true, i10, i01, ii01, ii02, ii03, ii04, ii05, ii12, ii13, ii14, ii15, ii20, ii21, ii23, ii24, ii25, ii30, ii31, ii32, ii34, ii35, ii40, ii41, ii42, ii43, ii45, ii50, ii51, ii52, ii53, ii54, bi_z, Option.some.injEq, reduceCtorEq, Nat.reduceLeDiff]
      · rw [if_neg h1] at hst2
        exact absurd hst2 (by simp)
    · obtain ⟨n12, n13, n14⟩ := cm_12 hs4 hr3
      obtain ⟨⟨o8, o7, o6⟩, oS, oR⟩ := cm_16 hs4 hr3
      obtain ⟨d3, r3'⟩ := cm_3 hs4 hr3
      rw [d3] at r3'
      rw [if_neg (by rw [x1]; exact n12), if_neg (by rw [x1]; exact fun e => e.elim n13 n14)] at hst2
      by_cases h1 : h < 20
      · rw [if_pos h1] at hst2
        obtain rfl : h' = h + 1 := Option.some.inj hst2
        have vh := vp_nI (show h < 800 by omega) (show 800 < 2147483648 by decide)
        have nh := nI_cl (show h < 2147483648 by omega)
        have vb := vp_nI (show b < 24 by omega) (show 24 < 2147483648 by decide)
        have nb := nI_cl (show b < 2147483648 by omega)
        have pl := pv_lt h t (fun i hi => (hg i hi).2)
        have pl2 : 2 ^ (h + 1) ≤ 2 ^ 21 := Nat.pow_le_pow_right (by decide) (by omega)
        have tl := tvN_le (fv c b s) r0 (mI c 25 (u + k))
        obtain ⟨tt, htt⟩ : ∃ tt, tvN (fv c b s) r0 (mI c 25 (u + k)) = tt := ⟨_, rfl⟩
        rw [htt] at tl
        have ex : ∀ v, v = nI tt → (nI (pv h t) <<< ((1 : Int32) &&& 31)) ||| v = nI (pv (h + 1) (va_up t h tt)) := by
          intro v e
          rw [pv_up, e, pk_shlN ((1 : Int32) &&& 31) 1 (by decide) (by omega), nI_or]
          have := nb_or (pv h t) (a := 0) (b := tt) (by decide) tl
          rw [Nat.add_zero] at this
          rw [show pv h t * 2 ^ 1 = 2 * pv h t by omega, this]
          rcases b01 tl with e0 | e0
          · rw [e0]; rfl
          · rw [e0]; rfl
        obtain ⟨r, g', r1, r2, r3⟩ := ih (k + 1) (h + 1) (va_up t h tt) (va_up g h (nI tt)) M (by omega) hh' (fun i hi => by
          by_cases e : i = h
          · rw [e, va_up_self, va_up_self]; exact ⟨rfl, tl⟩
          · rw [va_up_ne _ _ e, va_up_ne _ _ e]; exact hg i (by omega)) (by omega)
        refine ⟨r, g', hc0 _ ?_, hm0 _ ?_, r3⟩
        · rcases b01 tl with e0 | e0
          · have ez : (nI tt = (0 : Int32)) = True := eq_true (by rw [e0]; rfl)
            have ex0 := ex 0 (by rw [e0]; rfl)
            simp only [f_X0_holds_b21_it, f_X0_holds_b139, f_X0_holds_b142, hC, vl1, nl1, e21, q1, vk, nk, x1, n12, n13, n14, n3ne, d3, r3', e_factOf F hC hN h6 hb hs4, e_isTrue F c _ _ hr3, htt, ez, ex0, nI_1, nx_eq, ck_true, br_true, br_false, bd_eq, de_eq, mN_sI_, mK_sI_, mL_sI_, mI_sI_ap, mJ_sI_, mR_sI_, mN_sJ_, mK_sJ_, mL_sJ_, mI_sJ_, mJ_sJ_ap, mR_sJ_, mN_sR_, mK_sR_, mL_sR_, mI_sR_, mJ_sR_, mR_sR_ap, Nat.reduceEqDiff, Nat.reduceAdd, ↓reduceIte, and_true, true_and, and_false, false_and, or_true, true_or, or_false, false_or, not_true_eq_false, not_false_eq_true, i10, i01, ii01, ii02, ii03, ii04, ii05, ii12, ii13, ii14, ii15, ii20, ii21, ii23, ii24, ii25, ii30, ii31, ii32, ii34, ii35, ii40, ii41, ii42, ii43, ii45, ii50, ii51, ii52, ii53, ii54, bi_z, Option.some.injEq, reduceCtorEq, Nat.reduceLeDiff]
            exact r1
          · have ez : (nI tt = (0 : Int32)) = False := eq_false (by rw [e0]; decide)
            have ex0 := ex 1 (by rw [e0]; rfl)
            simp only [f_X0_holds_b21_it, f_X0_holds_b139, f_X0_holds_b142, hC, vl1, nl1, e21, q1, vk, nk, x1, n12, n13, n14, n3ne, d3, r3', e_factOf F hC hN h6 hb hs4, e_isTrue F c _ _ hr3, htt, ez, ex0, nI_1, nx_eq, ck_true, br_true, br_false, bd_eq, de_eq, mN_sI_, mK_sI_, mL_sI_, mI_sI_ap, mJ_sI_, mR_sI_, mN_sJ_, mK_sJ_, mL_sJ_, mI_sJ_, mJ_sJ_ap, mR_sJ_, mN_sR_, mK_sR_, mL_sR_, mI_sR_, mJ_sR_, mR_sR_ap, Nat.reduceEqDiff, Nat.reduceAdd, ↓reduceIte, and_true, true_and, and_false, false_and, or_true, true_or, or_false, false_or, not_true_eq_false, not_false_eq_true, i10, i01, ii01, ii02, ii03, ii04, ii05, ii12, ii13, ii14, ii15, ii20, ii21, ii23, ii24, ii25, ii30, ii31, ii32, ii34, ii35, ii40, ii41, ii42, ii43, ii45, ii50, ii51, ii52, ii53, ii54, bi_z, Option.some.injEq, reduceCtorEq, Nat.reduceLeDiff]
            exact r1
        · have hM1 : shM (wI m 90 g) := hM.cg rfl rfl rfl
          have e83 : mI (wI m 90 g) 83 (800 * (6 * nw + l) + k) = mI c 25 (u + k) := by rw [mI_wI_o (by decide)]; exact hnum.symm
          have eN : vp_nar .boolean (nI tt) = nI tt := by
            rcases b01 tl with e0 | e0
            · rw [e0]; rfl
            · rw [e0]; rfl
          have fin : f_X11_holds_b243 F (f_X11_holds_b28 F 50 M) 50 (wI m 90 g) (nI b) (nI (6 * nw + l)) (nI h) (nI k) (nI (16 * (9 + s) + r0)) (fv c b s) = some (r, wI m 90 g') := by
            rw [e_h243 F _ hM1 hs4 hr3 (by omega) (by omega), e83, htt]
            simp only [f_X11_holds_b325, f_X11_holds_b329, mK_wI_, mL_wI_, hM, vh, nh, eN, sI_wI, nI_1, r2, nx_eq, ck_true, br_true, br_false, bd_eq, de_eq, mN_sI_, mK_sI_, mL_sI_, mI_sI_ap, mJ_sI_, mR_sI_, mN_sJ_, mK_sJ_, mL_sJ_, mI_sJ_, mJ_sJ_ap, mR_sJ_, mN_sR_, mK_sR_, mL_sR_, mI_sR_, mJ_sR_, mR_sR_ap, Nat.reduceEqDiff, Nat.reduceAdd, ↓reduceIte, and_true, true_and, and_false, false_and, or_true, true_or, or_false, false_or, not_true_eq_false, not_false_eq_true, i10, i01, ii01, ii02, ii03, ii04, ii05, ii12, ii13, ii14, ii15, ii20, ii21, ii23, ii24, ii25, ii30, ii31, ii32, ii34, ii35, ii40, ii41, ii42, ii43, ii45, ii50, ii51, ii52, ii53, ii54, bi_z, Option.some.injEq, reduceCtorEq, Nat.reduceLeDiff]
          rcases (show s = 0 ∨ s = 1 ∨ s = 2 ∨ s = 3 by omega) with e0 | e0 | e0 | e0
          · have es : (nI s : Int32) = 0 := by rw [e0]; rfl
            have ef : fv c b s = mI m 54 b := by unfold fv; rw [if_pos e0, k9]
            rw [ef] at fin
            have e54 : mI (wI m 90 g) 54 = mI m 54 := mI_wI_o (by decide)
            simp only [f_X11_holds_b28_it, mK_wI_, mL_wI_, mR_wI_, hM, vX, nX, e81', q2, i800, vm, nm, e82, x2, o8, o7, o6, n16ne, oS, es, vb, nb, e54, fin, nx_eq, ck_true, br_true, br_false, bd_eq, de_eq, mN_sI_, mK_sI_, mL_sI_, mI_sI_ap, mJ_sI_, mR_sI_, mN_sJ_, mK_sJ_, mL_sJ_, mI_sJ_, mJ_sJ_ap, mR_sJ_, mN_sR_, mK_sR_, mL_sR_, mI_sR_, mJ_sR_, mR_sR_ap, Nat.reduceEqDiff, Nat.reduceAdd, ↓reduceIte, and_true, true_and, and_false, false_and, or_true, true_or, or_false, false_or, not_true_eq_false, not_false_eq_true, i10, i01, ii01, ii02, ii03, ii04, ii05, ii12, ii13, ii14, ii15, ii20, ii21, ii23, ii24, ii25, ii30, ii31, ii32, ii34, ii35, ii40, ii41, ii42, ii43, ii45, ii50, ii51, ii52, ii53, ii54, bi_z, Option.some.injEq, reduceCtorEq, Nat.reduceLeDiff]
          · have es : (nI s : Int32) = 1 := by rw [e0]; rfl
            have ef : fv c b s = mI m 55 b := by unfold fv; rw [if_neg (by omega), if_pos e0, k10]
            rw [ef] at fin
            have e54 : mI (wI m 90 g) 55 = mI m 55 := mI_wI_o (by decide)
            simp only [f_X11_holds_b28_it, mK_wI_, mL_wI_, mR_wI_, hM, vX, nX, e81', q2, i800, vm, nm, e82, x2, o8, o7, o6, n16ne, oS, es, vb, nb, e54, fin, nx_eq, ck_true, br_true, br_false, bd_eq, de_eq, mN_sI_, mK_sI_, mL_sI_, mI_sI_ap, mJ_sI_, mR_sI_, mN_sJ_, mK_sJ_, mL_sJ_, mI_sJ_, mJ_sJ_ap, mR_sJ_, mN_sR_, mK_sR_, mL_sR_, mI_sR_, mJ_sR_, mR_sR_ap, Nat.reduceEqDiff, Nat.reduceAdd, ↓reduceIte, and_true, true_and, and_false, false_and, or_true, true_or, or_false, false_or, not_true_eq_false, not_false_eq_true, i10, i01, ii01, ii02, ii03, ii04, ii05, ii12, ii13, ii14, ii15, ii20, ii21, ii23, ii24, ii25, ii30, ii31, ii32, ii34, ii35, ii40, ii41, ii42, ii43, ii45, ii50, ii51, ii52, ii53, ii54, bi_z, Option.some.injEq, reduceCtorEq, Nat.reduceLeDiff]
          · have es : (nI s : Int32) = 2 := by rw [e0]; rfl
            have ef : fv c b s = mI m 56 b := by unfold fv; rw [if_neg (by omega), if_neg (by omega), if_pos e0, k11]
            rw [ef] at fin
            have e54 : mI (wI m 90 g) 56 = mI m 56 := mI_wI_o (by decide)
            simp only [f_X11_holds_b28_it, mK_wI_, mL_wI_, mR_wI_, hM, vX, nX, e81', q2, i800, vm, nm, e82, x2, o8, o7, o6, n16ne, oS, es, vb, nb, e54, fin, nx_eq, ck_true, br_true, br_false, bd_eq, de_eq, mN_sI_, mK_sI_, mL_sI_, mI_sI_ap, mJ_sI_, mR_sI_, mN_sJ_, mK_sJ_, mL_sJ_, mI_sJ_, mJ_sJ_ap, mR_sJ_, mN_sR_, mK_sR_, mL_sR_, mI_sR_, mJ_sR_, mR_sR_ap, Nat.reduceEqDiff, Nat.reduceAdd, ↓reduceIte, and_true, true_and, and_false, false_and, or_true, true_or, or_false, false_or, not_true_eq_false, not_false_eq_true, i10, i01, ii01, ii02, ii03, ii04, ii05, ii12, ii13, ii14, ii15, ii20, ii21, ii23, ii24, ii25, ii30, ii31, ii32, ii34, ii35, ii40, ii41, ii42, ii43, ii45, ii50, ii51, ii52, ii53, ii54, bi_z, Option.some.injEq, reduceCtorEq, Nat.reduceLeDiff]
          · have es : (nI s : Int32) = 3 := by rw [e0]; rfl
            have ef : fv c b s = nI b := by unfold fv; rw [if_neg (by omega), if_neg (by omega), if_neg (by omega)]
            rw [ef] at fin
            simp only [f_X11_holds_b28_it, mK_wI_, mL_wI_, mR_wI_, hM, vX, nX, e81', q2, i800, vm, nm, e82, x2, o8, o7, o6, n16ne, oS, es, vb, nb, fin, nx_eq, ck_true, br_true, br_false, bd_eq, de_eq, mN_sI_, mK_sI_, mL_sI_, mI_sI_ap, mJ_sI_, mR_sI_, mN_sJ_, mK_sJ_, mL_sJ_, mI_sJ_, mJ_sJ_ap, mR_sJ_, mN_sR_, mK_sR_, mL_sR_, mI_sR_, mJ_sR_, mR_sR_ap, Nat.reduceEqDiff, Nat.reduceAdd, ↓reduceIte, and_true, true_and, and_false, false_and, or_true, true_or, or_false, false_or, not_true_eq_false, not_false_eq_true, i10, i01, ii01, ii02, ii03, ii04, ii05, ii12, ii13, ii14, ii15, ii20, ii21, ii23, ii24, ii25, ii30, ii31, ii32, ii34, ii35, ii40, ii41, ii42, ii43, ii45, ii50, ii51, ii52, ii53, ii54, bi_z, Option.some.injEq, reduceCtorEq, Nat.reduceLeDiff]
      · rw [if_neg h1] at hst2
        exact absurd hst2 (by simp)
theorem e_holds (F : Nat) (hF : 1000 ≤ F) {c m : Mem} (hC : shC c) (hM : shM m) {L N nw nl l b : Nat} (hcl : Rclub c m L N) (hbk : Rbook c m nw nl) (hl : l < nl) (hb : b < N) : ∃ r g, f_X0_holds F c 17 (nI l) (some 26) (nI b) = some (r, c) ∧ f_X11_holds F m 50 (nI l) (nI b) = some (r, wI m 90 g) ∧ (r = 0 ∨ r = 1) := by
  obtain ⟨k1, k2, k3, k4, k5, k6, k7, k8, k9, k10, k11, k12, k13⟩ := hcl
  obtain ⟨b1, b2, b3, b4, b5, b6, b7⟩ := hbk
  obtain ⟨-, -, -, u, z, uz, z4, e20, e21, hh⟩ := b7 l hl
  have vl1 := vp_nI (show l < 6 by omega) (show 6 < 2147483648 by decide)
  have nl1 := nI_cl (show l < 2147483648 by omega)
  have vX := vp_nI (show 6 * nw + l < 12 by omega) (show 12 < 2147483648 by decide)
  have nX := nI_cl (show 6 * nw + l < 2147483648 by omega)
  have hx : ∀ r, f_X0_holds_b21 F 17 F c (nI l) (some 26) (nI b) (1 : Int32) (nI u) = some (r, c) → f_X0_holds F c 17 (nI l) (some 26) (nI b) = some (r, c) := by
    intro r e
    simp only [f_X0_holds, e_X0_hasList, hC, b5, bx_in hl (show nl < 2147483648 by omega), vl1, nl1, e20, e, nx_eq, ck_true, br_true, br_false, bd_eq, de_eq, mN_sI_, mK_sI_, mL_sI_, mI_sI_ap, mJ_sI_, mR_sI_, mN_sJ_, mK_sJ_, mL_sJ_, mI_sJ_, mJ_sJ_ap, mR_sJ_, mN_sR_, mK_sR_, mL_sR_, mI_sR_, mJ_sR_, mR_sR_ap, Nat.reduceEqDiff, Nat.reduceAdd, ↓reduceIte, and_true, true_and, and_false, false_and, or_true, true_or, or_false, false_or, not_true_eq_false, not_false_eq_true, i10, i01, ii01, ii02, ii03, ii04, ii05, ii12, ii13, ii14, ii15, ii20, ii21, ii23, ii24, ii25, ii30, ii31, ii32, ii34, ii35, ii40, ii41, ii42, ii43, ii45, ii50, ii51, ii52, ii53, ii54, bi_z, Option.some.injEq, reduceCtorEq, Nat.reduceLeDiff]
  rcases hh with ⟨rfl, e81⟩ | ⟨uz', e81, hp, hs⟩
  · refine ⟨1, mI m 90, hx 1 ?_, ?_, Or.inr rfl⟩
    · obtain ⟨F, rfl⟩ : ∃ F', F = F' + 1 := ⟨F - 1, by omega⟩
      have q1 : nI u ≤ nI u := nI_le (Nat.le_refl _) (by omega)
      have ea : (((1 : Int32) &&& (1 : Int32)) = 1) = True := eq_true (by decide)
      show f_X0_holds_b21_it (F + 1) (f_X0_holds_b21 (F + 1) 17 F) 17 c (nI l) (some 26) (nI b) (1 : Int32) (nI u) = _
      simp only [f_X0_holds_b21_it, hC, vl1, nl1, e21, q1, ea, nx_eq, ck_true, br_true, br_false, bd_eq, de_eq, mN_sI_, mK_sI_, mL_sI_, mI_sI_ap, mJ_sI_, mR_sI_, mN_sJ_, mK_sJ_, mL_sJ_, mI_sJ_, mJ_sJ_ap, mR_sJ_, mN_sR_, mK_sR_, mL_sR_, mI_sR_, mJ_sR_, mR_sR_ap, Nat.reduceEqDiff, Nat.reduceAdd, ↓reduceIte, and_true, true_and, and_false, false_and, or_true, true_or, or_false, false_or, not_true_eq_false, not_false_eq_true, i10, i01, ii01, ii02, ii03, ii04, ii05, ii12, ii13, ii14, ii15, ii20, ii21, ii23, ii24, ii25, ii30, ii31, ii32, ii34, ii35, ii40, ii41, ii42, ii43, ii45, ii50, ii51, ii52, ii53, ii54, bi_z, Option.some.injEq, reduceCtorEq, Nat.reduceLeDiff]
    · rw [wI_id]
      simp only [f_X11_holds, hM, b4, i6, vX, nX, e81, nx_eq, ck_true, br_true, br_false, bd_eq, de_eq, mN_sI_, mK_sI_, mL_sI_, mI_sI_ap, mJ_sI_, mR_sI_, mN_sJ_, mK_sJ_, mL_sJ_, mI_sJ_, mJ_sJ_ap, mR_sJ_, mN_sR_, mK_sR_, mL_sR_, mI_sR_, mJ_sR_, mR_sR_ap, Nat.reduceEqDiff, Nat.reduceAdd, ↓reduceIte, and_true, true_and, and_false, false_and, or_true, true_or, or_false, false_or, not_true_eq_false, not_false_eq_true, i10, i01, ii01, ii02, ii03, ii04, ii05, ii12, ii13, ii14, ii15, ii20, ii21, ii23, ii24, ii25, ii30, ii31, ii32, ii34, ii35, ii40, ii41, ii42, ii43, ii45, ii50, ii51, ii52, ii53, ii54, bi_z, Option.some.injEq, reduceCtorEq, Nat.reduceLeDiff]
  · obtain ⟨r, g, r1, r2, r3⟩ := lp_holds F hC hM (l := l) (nw := nw) (u := u) (z := z) k2 k5 hb k9 k10 k11 (by omega) b1 z4 uz e21 e81 hp hs (z - u) 0 0 (fun _ => 0) (mI m 90) F (by omega) rfl (fun i hi => absurd hi (by omega)) (by omega)
    refine ⟨r, g, hx r r1, ?_, r3⟩
    rw [wI_id] at r2
    have r2' : f_X11_holds_b28 F 50 F m (nI b) (nI (6 * nw + l)) (0 : Int32) (0 : Int32) = some (r, wI m 90 g) := r2
    have n1 : ¬ nI (z - u) = (-1 : Int32) := fun e => absurd (nI_pos (n := z - u) (by omega)) (by rw [e]; decide)
    simp only [f_X11_holds, hM, b4, i6, vX, nX, e81, n1, r2', nx_eq, ck_true, br_true, br_false, bd_eq, de_eq, mN_sI_, mK_sI_, mL_sI_, mI_sI_ap, mJ_sI_, mR_sI_, mN_sJ_, mK_sJ_, mL_sJ_, mI_sJ_, mJ_sJ_ap, mR_sJ_, mN_sR_, mK_sR_, mL_sR_, mI_sR_, mJ_sR_, mR_sR_ap, Nat.reduceEqDiff, Nat.reduceAdd, ↓reduceIte, and_true, true_and, and_false, false_and, or_true, true_or, or_false, false_or, not_true_eq_false, not_false_eq_true, i10, i01, ii01, ii02, ii03, ii04, ii05, ii12, ii13, ii14, ii15, ii20, ii21, ii23, ii24, ii25, ii30, ii31, ii32, ii34, ii35, ii40, ii41, ii42, ii43, ii45, ii50, ii51, ii52, ii53, ii54, bi_z, Option.some.injEq, reduceCtorEq, Nat.reduceLeDiff]
