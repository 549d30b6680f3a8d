/-! stakes, and purses opened again -/
theorem lp_is (F : Nat) {c : Mem} {y x : Nat} (h1 : mK c x = 22) (h2 : mL c x = 24) : ∀ j k M, k + j = 24 → j < M → f_X4_isStaked_b10 F y M c (some x) (nI 24) (nI k) = some (bi (∃ b, k ≤ b ∧ b < 24 ∧ ¬ mI c x b ≤ 0), c) := by
  intro j
  induction j with
  | zero =>
    intro k M hk hM
    obtain ⟨M, rfl⟩ : ∃ x, M = x + 1 := ⟨M - 1, by omega⟩
    have q1 : nI 24 ≤ nI k := nI_le (by omega) (by omega)
    rw [bi_f (fun ⟨b, b1, b2, _⟩ => by omega)]
    show f_X4_isStaked_b10_it F (f_X4_isStaked_b10 F y M) y c (some x) (nI 24) (nI k) = _
    simp only [f_X4_isStaked_b10_it, q1, nx_eq, ck_true, br_true, br_false, bd_eq, de_eq, mN_sI_, mK_sI_, mL_sI_, mI_sI_ap, mJ_sI_, mR_sI_, mN_sJ_, mK_sJ_, mL_sJ_, mI_sJ_, mJ_sJ_ap, mR_sJ_, mN_sR_, mK_sR_, mL_sR_, mI_sR_, mJ_sR_, mR_sR_ap, Nat.reduceEqDiff, Nat.reduceAdd, ↓reduceIte, and_true, true_and, and_false, false_and, or_true, true_or, or_false, false_or, not_true_eq_false, not_false_eq_true, i10, i01, ii01, ii02, ii03, ii04, ii05, ii12, ii13, ii14, ii15, ii20, ii21, ii23, ii24, ii25, ii30, ii31, ii32, ii34, ii35, ii40, ii41, ii42, ii43, ii45, ii50, ii51, ii52, ii53, ii54, bi_z, Option.some.injEq, reduceCtorEq, Nat.reduceLeDiff]
  | succ j ih =>
    intro k M hk hM
    obtain ⟨M, rfl⟩ : ∃ x, M = x + 1 := ⟨M - 1, by omega⟩
    have q1 : ¬ nI 24 ≤ nI k := nI_ge (by omega) (by decide)
    have vk := vp_nI (show k < 24 by omega) (show 24 < 2147483648 by decide)
    have nk := nI_cl (show k < 2147483648 by omega)
    show f_X4_isStaked_b10_it F (f_X4_isStaked_b10 F y M) y c (some x) (nI 24) (nI k) = _
    by_cases e : mI c x k ≤ 0
    · have w := ih (k + 1) M (by omega) (by omega)
      rw [bi_c (e := ∃ b, k ≤ b ∧ b < 24 ∧ ¬ mI c x b ≤ 0) ⟨fun ⟨b, b1, b2⟩ => ⟨b, by omega, b2⟩, fun ⟨b, b1, b2, b3⟩ => ⟨b, by
        by_cases f : b = k
        · rw [f] at b3; exact absurd e b3
        · omega, b2, b3⟩⟩] at w
      simp only [f_X4_isStaked_b10_it, q1, h1, h2, vk, nk, e, nI_1, w, nx_eq, ck_true, br_true, br_false, bd_eq, de_eq, mN_sI_, mK_sI_, mL_sI_, mI_sI_ap, mJ_sI_, mR_sI_, mN_sJ_, mK_sJ_, mL_sJ_, mI_sJ_, mJ_sJ_ap, mR_sJ_, mN_sR_, mK_sR_, mL_sR_, mI_sR_, mJ_sR_, mR_sR_ap, Nat.reduceEqDiff, Nat.reduceAdd, ↓reduceIte, and_true, true_and, and_false, false_and, or_true, true_or, or_false, false_or, not_true_eq_false, not_false_eq_true, i10, i01, ii01, ii02, ii03, ii04, ii05, ii12, ii13, ii14, ii15, ii20, ii21, ii23, ii24, ii25, ii30, ii31, ii32, ii34, ii35, ii40, ii41, ii42, ii43, ii45, ii50, ii51, ii52, ii53, ii54, bi_z, Option.some.injEq, reduceCtorEq, Nat.reduceLeDiff]
    · rw [bi_t ⟨k, Nat.le_refl _, by omega, e⟩]
      simp only [f_X4_isStaked_b10_it, q1, h1, h2, vk, nk, e, nx_eq, ck_true, br_true, br_false, bd_eq, de_eq, mN_sI_, mK_sI_, mL_sI_, mI_sI_ap, mJ_sI_, mR_sI_, mN_sJ_, mK_sJ_, mL_sJ_, mI_sJ_, mJ_sJ_ap, mR_sJ_, mN_sR_, mK_sR_, mL_sR_, mI_sR_, mJ_sR_, mR_sR_ap, Nat.reduceEqDiff, Nat.reduceAdd, ↓reduceIte, and_true, true_and, and_false, false_and, or_true, true_or, or_false, false_or, not_true_eq_false, not_false_eq_true, i10, i01, ii01, ii02, ii03, ii04, ii05, ii12, ii13, ii14, ii15, ii20, ii21, ii23, ii24, ii25, ii30, ii31, ii32, ii34, ii35, ii40, ii41, ii42, ii43, ii45, ii50, ii51, ii52, ii53, ii54, bi_z, Option.some.injEq, reduceCtorEq, Nat.reduceLeDiff]
def stF (c : Mem) (q l : Nat) : Prop := ∃ b, b < 24 ∧ ¬ mI c (q + (14 + 4 * l)) b ≤ 0
theorem e_isStaked (F : Nat) (hF : 1000 ≤ F) {c : Mem} {q l : Nat} (h : shF c q) (hl : l < 6) : f_X4_isStaked F c (q + (13 + 4 * l)) = some (bi (stF c q l), c) := by
  obtain ⟨u1, u2, u3, u4, u5, u6, u7, u8, u9, u10⟩ := h.purse hl
  have w := lp_is F (y := q + (13 + 4 * l)) u4 u5 24 0 F (by omega) (by omega)
  have w' : f_X4_isStaked_b10 F (q + (13 + 4 * l)) F c (some (q + (14 + 4 * l))) (nI 24) (0 : Int32) = _ := w
  rw [bi_c (e := stF c q l) ⟨fun ⟨b, b1, b2⟩ => ⟨b, b2⟩, fun ⟨b, b2⟩ => ⟨b, Nat.zero_le _, b2⟩⟩] at w'
  have g1 : (21 ≤ (22 : Nat)) = True := eq_true (by decide)
  have g2 : ((22 : Nat) ≤ 27) = True := eq_true (by decide)
  simp only [f_X4_isStaked, u2, u3, u4, u5, g1, g2, w', nx_eq, ck_true, br_true, br_false, bd_eq, de_eq, mN_sI_, mK_sI_, mL_sI_, mI_sI_ap, mJ_sI_, mR_sI_, mN_sJ_, mK_sJ_, mL_sJ_, mI_sJ_, mJ_sJ_ap, mR_sJ_, mN_sR_, mK_sR_, mL_sR_, mI_sR_, mJ_sR_, mR_sR_ap, Nat.reduceEqDiff, Nat.reduceAdd, ↓reduceIte, and_true, true_and, and_false, false_and, or_true, true_or, or_false, false_or, not_true_eq_false, not_false_eq_true, i10, i01, ii01, ii02, ii03, ii04, ii05, ii12, ii13, ii14, ii15, ii20, ii21, ii23, ii24, ii25, ii30, ii31, ii32, ii34, ii35, ii40, ii41, ii42, ii43, ii45, ii50, ii51, ii52, ii53, ii54, bi_z, Option.some.injEq, reduceCtorEq, Nat.reduceLeDiff]
theorem lp_hs (F : Nat) (hF : 1000 ≤ F) {c : Mem} {q : Nat} (h : shF c q) : ∀ j k M, k + j = 6 → j < M → f_X2_hasStakes_b10 F q M c (some (q + 12)) (nI 6) (nI k) = some (bi (∃ l, k ≤ l ∧ l < 6 ∧ stF c q l), c) := by
  obtain ⟨s1, s2, s3, s4⟩ := h.base
  intro j
  induction j with
  | zero =>
    intro k M hk hM
    obtain ⟨M, rfl⟩ : ∃ x, M = x + 1 := ⟨M - 1, by omega⟩
    have q1 : nI 6 ≤ nI k := nI_le (by omega) (by omega)
    rw [bi_f (fun ⟨b, b1, b2, _⟩ => by omega)]
    show f_X2_hasStakes_b10_it F (f_X2_hasStakes_b10 F q M) q c (some (q + 12)) (nI 6) (nI k) = _
    simp only [f_X2_hasStakes_b10_it, q1, nx_eq, ck_true, br_true, br_false, bd_eq, de_eq, mN_sI_, mK_sI_, mL_sI_, mI_sI_ap, mJ_sI_, mR_sI_, mN_sJ_, mK_sJ_, mL_sJ_, mI_sJ_, mJ_sJ_ap, mR_sJ_, mN_sR_, mK_sR_, mL_sR_, mI_sR_, mJ_sR_, mR_sR_ap, Nat.reduceEqDiff, Nat.reduceAdd, ↓reduceIte, and_true, true_and, and_false, false_and, or_true, true_or, or_false, false_or, not_true_eq_false, not_false_eq_true, i10, i01, ii01, ii02, ii03, ii04, ii05, ii12, ii13, ii14, ii15, ii20, ii21, ii23, ii24, ii25, ii30, ii31, ii32, ii34, ii35, ii40, ii41, ii42, ii43, ii45, ii50, ii51, ii52, ii53, ii54, bi_z, Option.some.injEq, reduceCtorEq, Nat.reduceLeDiff]
  | succ j ih =>
    intro k M hk hM
    obtain ⟨M, rfl⟩ : ∃ x, M = x + 1 := ⟨M - 1, by omega⟩
    have q1 : ¬ nI 6 ≤ nI k := nI_ge (by omega) (by decide)
    have vk := vp_nI (show k < 6 by omega) (show 6 < 2147483648 by decide)
    have nk := nI_cl (show k < 2147483648 by omega)
    obtain ⟨u1, u2, -⟩ := h.purse (show k < 6 by omega)
    have e0 : ((some (q + (13 + 4 * k)) : Option Nat) = none) = False := eq_false (fun e => by cases e)
    have eS := e_isStaked F hF h (show k < 6 by omega)
    show f_X2_hasStakes_b10_it F (f_X2_hasStakes_b10 F q M) q c (some (q + 12)) (nI 6) (nI k) = _
    by_cases e : stF c q k
    · rw [bi_t e] at eS
      rw [bi_t ⟨k, Nat.le_refl _, by omega, e⟩]
      simp only [f_X2_hasStakes_b10_it, q1, s3, s4, vk, nk, u1, u2, e0, eS, nx_eq, ck_true, br_true, br_false, bd_eq, de_eq, and_self, i10]
    · rw [bi_f e] at eS
      have w := ih (k + 1) M (by omega) (by omega)
      rw [bi_c (e := ∃ l, k ≤ l ∧ l < 6 ∧ stF c q l) ⟨fun ⟨b, b1, b2⟩ => ⟨b, by omega, b2⟩, fun ⟨b, b1, b2, b3⟩ => ⟨b, by
        by_cases f : b = k
        · rw [f] at b3; exact absurd b3 e
        · omega, b2, b3⟩⟩] at w
      simp only [f_X2_hasStakes_b10_it, f_X2_hasStakes_b35, q1, s3, s4, vk, nk, u1, u2, e0, eS, nI_1, w, nx_eq, ck_true, br_true, br_false, bd_eq, de_eq, and_self, i01]
def stA (c : Mem) (fid : Nat → Nat) (f : Nat) : Prop := ∃ l, l < 6 ∧ stF c (fid f) l
theorem e_hasSt (F : Nat) (hF : 1000 ≤ F) {c : Mem} {fid : Nat → Nat} {f : Nat} (h : shF c (fid f)) : f_X2_hasStakes F c (fid f) = some (bi (stA c fid f), c) := by
  obtain ⟨s1, s2, s3, s4⟩ := h.base
  have w := lp_hs F hF h 6 0 F (by omega) (by omega)
  have w' : f_X2_hasStakes_b10 F (fid f) F c (some (fid f + 12)) (nI 6) (0 : Int32) = _ := w
  rw [bi_c (e := stA c fid f) ⟨fun ⟨b, b1, b2⟩ => ⟨b, b2⟩, fun ⟨b, b2⟩ => ⟨b, Nat.zero_le _, b2⟩⟩] at w'
  have g1 : (21 ≤ (26 : Nat)) = True := eq_true (by decide)
  have g2 : ((26 : Nat) ≤ 27) = True := eq_true (by decide)
  simp only [f_X2_hasStakes, s1, s2, s3, s4, g1, g2, w', nx_eq, ck_true, br_true, br_false, bd_eq, de_eq, mN_sI_, mK_sI_, mL_sI_, mI_sI_ap, mJ_sI_, mR_sI_, mN_sJ_, mK_sJ_, mL_sJ_, mI_sJ_, mJ_sJ_ap, mR_sJ_, mN_sR_, mK_sR_, mL_sR_, mI_sR_, mJ_sR_, mR_sR_ap, Nat.reduceEqDiff, Nat.reduceAdd, ↓reduceIte, and_true, true_and, and_false, false_and, or_true, true_or, or_false, false_or, not_true_eq_false, not_false_eq_true, i10, i01, ii01, ii02, ii03, ii04, ii05, ii12, ii13, ii14, ii15, ii20, ii21, ii23, ii24, ii25, ii30, ii31, ii32, ii34, ii35, ii40, ii41, ii42, ii43, ii45, ii50, ii51, ii52, ii53, ii54, bi_z, Option.some.injEq, reduceCtorEq, Nat.reduceLeDiff]
theorem lp_hsA (F : Nat) (hF : 1000 ≤ F) {c m : Mem} (hC : shC c) {L N Fl : Nat} {fid S : Nat → Nat} (h : Rfls c m L N Fl fid S) : ∀ j k M, k + j = Fl → j < M → f_X10_hasStakes_b2 F 0 M c (nI k) = some (bi (∃ f, k ≤ f ∧ f < Fl ∧ stA c fid f), c) := by
  have f6 := h.1
  have h5 := h.2.1
  intro j
  induction j with
  | zero =>
    intro k M hk hM
    obtain ⟨M, rfl⟩ : ∃ x, M = x + 1 := ⟨M - 1, by omega⟩
    have q1 : nI Fl ≤ nI k := nI_le (by omega) (by omega)
    rw [bi_f (fun ⟨b, b1, b2, _⟩ => by omega)]
    show f_X10_hasStakes_b2_it F (f_X10_hasStakes_b2 F 0 M) 0 c (nI k) = _
    simp only [f_X10_hasStakes_b2_it, hC, h5, q1, nx_eq, ck_true, br_true, br_false, bd_eq, de_eq, mN_sI_, mK_sI_, mL_sI_, mI_sI_ap, mJ_sI_, mR_sI_, mN_sJ_, mK_sJ_, mL_sJ_, mI_sJ_, mJ_sJ_ap, mR_sJ_, mN_sR_, mK_sR_, mL_sR_, mI_sR_, mJ_sR_, mR_sR_ap, Nat.reduceEqDiff, Nat.reduceAdd, ↓reduceIte, and_true, true_and, and_false, false_and, or_true, true_or, or_false, false_or, not_true_eq_false, not_false_eq_true, i10, i01, ii01, ii02, ii03, ii04, ii05, ii12, ii13, ii14, ii15, ii20, ii21, ii23, ii24, ii25, ii30, ii31, ii32, ii34, ii35, ii40, ii41, ii42, ii43, ii45, ii50, ii51, ii52, ii53, ii54, bi_z, Option.some.injEq, reduceCtorEq, Nat.reduceLeDiff]
  | succ j ih =>
    intro k M hk hM
    obtain ⟨M, rfl⟩ : ∃ x, M = x + 1 := ⟨M - 1, by omega⟩
    have hkF : k < Fl := by omega
    have q1 : ¬ nI Fl ≤ nI k := nI_ge hkF (by omega)
    have eF := e_fA_in F hC h hkF
    have hsF := (h.2.2.2.1 k hkF).2.1
    have k3 : mK c (fid k) = 3 := hsF.base.1
    have e0 : ((some (fid k) : Option Nat) = none) = False := eq_false (fun e => by cases e)
    have eS := e_hasSt F hF hsF
    show f_X10_hasStakes_b2_it F (f_X10_hasStakes_b2 F 0 M) 0 c (nI k) = _
    by_cases e : stA c fid k
    · rw [bi_t e] at eS
      rw [bi_t ⟨k, Nat.le_refl _, hkF, e⟩]
      simp only [f_X10_hasStakes_b2_it, hC, h5, q1, eF, e0, k3, eS, nx_eq, ck_true, br_true, br_false, bd_eq, de_eq, i10]
    · rw [bi_f e] at eS
      have w := ih (k + 1) M (by omega) (by omega)
      rw [bi_c (e := ∃ f, k ≤ f ∧ f < Fl ∧ stA c fid f) ⟨fun ⟨b, b1, b2⟩ => ⟨b, by omega, b2⟩, fun ⟨b, b1, b2, b3⟩ => ⟨b, by
        by_cases f : b = k
        · rw [f] at b3; exact absurd b3 e
        · omega, b2, b3⟩⟩] at w
      simp only [f_X10_hasStakes_b2_it, f_X10_hasStakes_b29, hC, h5, q1, eF, e0, k3, eS, nI_1, w, nx_eq, ck_true, br_true, br_false, bd_eq, de_eq, i01]
/-- some stake is above 0, as the reference sees it -/
def stM (m : Mem) : Prop := ∃ i, i < 864 ∧ ¬ mI m 73 i ≤ 0
theorem st_iff {c m : Mem} {L N Fl : Nat} {fid S : Nat → Nat} (h : Rfls c m L N Fl fid S) : (∃ f, 0 ≤ f ∧ f < Fl ∧ stA c fid f) ↔ stM m := by
  have f6 := h.1
  refine ⟨fun ⟨f, _, hf, l, hl, b, hb, e⟩ => ?_, fun ⟨i, hi, e⟩ => ?_⟩
  · obtain ⟨-, -, -, -, -, -, -, hK⟩ := h.2.2.2.1 f hf
    have w := ((hK l hl).1 b hb).1
    exact ⟨144 * f + 24 * l + b, by omega, by rw [← w]; exact e⟩
  · by_cases g : 144 * Fl ≤ i
    · have w := h.2.2.2.2.2.2.2.2.1 i g
      rw [w] at e
      exact absurd (by decide) e
    · have hf : i / 144 < Fl := by omega
      obtain ⟨-, -, -, -, -, -, -, hK⟩ := h.2.2.2.1 (i / 144) hf
      have hl : i % 144 / 24 < 6 := by omega
      have hb : i % 24 < 24 := by omega
      have w := ((hK _ hl).1 _ hb).1
      rw [show 144 * (i / 144) + 24 * (i % 144 / 24) + i % 24 = i by omega] at w
      exact ⟨i / 144, Nat.zero_le _, hf, _, hl, _, hb, by rw [w]; exact e⟩
theorem e_hasStakes (F : Nat) (hF : 1000 ≤ F) {c m : Mem} (hC : shC c) {L N Fl : Nat} {fid S : Nat → Nat} (h : Rfls c m L N Fl fid S) : f_X10_hasStakes F c 0 = some (bi (stM m), c) := by
  have w := lp_hsA F hF hC h Fl 0 F (by omega) (by have := h.1; omega)
  rw [bi_c (st_iff h)] at w
  exact w
theorem lp_lsY (F : Nat) {m : Mem} (hM : shM m) (v : Int32) : ∀ j k M, k + j = 864 → j < M → (∃ i, k ≤ i ∧ i < 864 ∧ ¬ mI m 73 i ≤ 0) → f_X11_lists_b22 F 50 M m v (nI k) = some (-2, m) := by
  intro j
  induction j with
  | zero => exact fun k M hk hM2 ⟨i, i1, i2, i3⟩ => absurd i1 (by omega)
  | succ j ih =>
    intro k M hk hM2 ⟨i, i1, i2, i3⟩
    obtain ⟨M, rfl⟩ : ∃ x, M = x + 1 := ⟨M - 1, by omega⟩
    have q1 : ¬ (864 : Int32) ≤ nI k := nI_ge (b := 864) (by omega) (by decide)
    have vk := vp_nI (show k < 864 by omega) (show 864 < 2147483648 by decide)
    have nk := nI_cl (show k < 2147483648 by omega)
    show f_X11_lists_b22_it F (f_X11_lists_b22 F 50 M) 50 m v (nI k) = _
    by_cases e : mI m 73 k ≤ 0
    · have w := ih (k + 1) M (by omega) (by omega) ⟨i, by
        by_cases f : i = k
        · rw [f] at i3; exact absurd e i3
        · omega, i2, i3⟩
      simp only [f_X11_lists_b22_it, q1, hM, vk, nk, e, nI_1, w, nx_eq, ck_true, br_true, br_false, bd_eq, de_eq, mN_sI_, mK_sI_, mL_sI_, mI_sI_ap, mJ_sI_, mR_sI_, mN_sJ_, mK_sJ_, mL_sJ_, mI_sJ_, mJ_sJ_ap, mR_sJ_, mN_sR_, mK_sR_, mL_sR_, mI_sR_, mJ_sR_, mR_sR_ap, Nat.reduceEqDiff, Nat.reduceAdd, ↓reduceIte, and_true, true_and, and_false, false_and, or_true, true_or, or_false, false_or, not_true_eq_false, not_false_eq_true, i10, i01, ii01, ii02, ii03, ii04, ii05, ii12, ii13, ii14, ii15, ii20, ii21, ii23, ii24, ii25, ii30, ii31, ii32, ii34, ii35, ii40, ii41, ii42, ii43, ii45, ii50, ii51, ii52, ii53, ii54, bi_z, Option.some.injEq, reduceCtorEq, Nat.reduceLeDiff]
    · simp only [f_X11_lists_b22_it, q1, hM, vk, nk, e, nx_eq, ck_true, br_true, br_false, bd_eq, de_eq, mN_sI_, mK_sI_, mL_sI_, mI_sI_ap, mJ_sI_, mR_sI_, mN_sJ_, mK_sJ_, mL_sJ_, mI_sJ_, mJ_sJ_ap, mR_sJ_, mN_sR_, mK_sR_, mL_sR_, mI_sR_, mJ_sR_, mR_sR_ap, Nat.reduceEqDiff, Nat.reduceAdd, ↓reduceIte, and_true, true_and, and_false, false_and, or_true, true_or, or_false, false_or, not_true_eq_false, not_false_eq_true, i10, i01, ii01, ii02, ii03, ii04, ii05, ii12, ii13, ii14, ii15, ii20, ii21, ii23, ii24, ii25, ii30, ii31, ii32, ii34, ii35, ii40, ii41, ii42, ii43, ii45, ii50, ii51, ii52, ii53, ii54, bi_z, Option.some.injEq, reduceCtorEq, Nat.reduceLeDiff]
theorem lp_lsN (F : Nat) {m : Mem} (hM : shM m) (v : Int32) (h : ¬ stM m) : ∀ j k M, k + j = 864 → j < M → f_X11_lists_b22 F 50 M m v (nI k) = f_X11_lists_b22 F 50 1 m v (nI 864) := by
  intro j
  induction j with
  | zero =>
    intro k M hk hM2
    obtain ⟨M, rfl⟩ : ∃ x, M = x + 1 := ⟨M - 1, by omega⟩
    obtain rfl : k = 864 := by omega
    have q1 : (864 : Int32) ≤ nI 864 := by decide
    show f_X11_lists_b22_it F (f_X11_lists_b22 F 50 M) 50 m v (nI 864) = f_X11_lists_b22_it F (f_X11_lists_b22 F 50 0) 50 m v (nI 864)
    unfold f_X11_lists_b22_it
    rw [br_t1 q1, br_t1 q1]
  | succ j ih =>
    intro k M hk hM2
    obtain ⟨M, rfl⟩ : ∃ x, M = x + 1 := ⟨M - 1, by omega⟩
    have q1 : ¬ (864 : Int32) ≤ nI k := nI_ge (b := 864) (by omega) (by decide)
    have vk := vp_nI (show k < 864 by omega) (show 864 < 2147483648 by decide)
    have nk := nI_cl (show k < 2147483648 by omega)
    have e : mI m 73 k ≤ 0 := Classical.byContradiction fun e => h ⟨k, by omega, e⟩
    rw [← ih (k + 1) M (by omega) (by omega)]
    show f_X11_lists_b22_it F (f_X11_lists_b22 F 50 M) 50 m v (nI k) = _
    simp only [f_X11_lists_b22_it, q1, hM, vk, nk, e, nI_1, nx_eq, ck_true, br_true, br_false, bd_eq, de_eq, mN_sI_, mK_sI_, mL_sI_, mI_sI_ap, mJ_sI_, mR_sI_, mN_sJ_, mK_sJ_, mL_sJ_, mI_sJ_, mJ_sJ_ap, mR_sJ_, mN_sR_, mK_sR_, mL_sR_, mI_sR_, mJ_sR_, mR_sR_ap, Nat.reduceEqDiff, Nat.reduceAdd, ↓reduceIte, and_true, true_and, and_false, false_and, or_true, true_or, or_false, false_or, not_true_eq_false, not_false_eq_true, i10, i01, ii01, ii02, ii03, ii04, ii05, ii12, ii13, ii14, ii15, ii20, ii21, ii23, ii24, ii25, ii30, ii31, ii32, ii34, ii35, ii40, ii41, ii42, ii43, ii45, ii50, ii51, ii52, ii53, ii54, bi_z, Option.some.injEq, reduceCtorEq, Nat.reduceLeDiff]
/-- purses that are opened again -/
def OPN (c c' : Mem) (P : Nat → Prop) : Prop := mK c' = mK c ∧ mL c' = mL c ∧ mR c' = mR c ∧ mN c' = mN c ∧ mJ c' = mJ c ∧ (∀ x, ¬ P x → mI c' x = mI c x) ∧ (∀ x j, j ≠ 2 → mI c' x j = mI c x j) ∧ ∀ x, P x → mI c' x 2 = 0
theorem OPN.rf (c : Mem) {P : Nat → Prop} (h : ∀ x, ¬ P x) : OPN c c P := ⟨rfl, rfl, rfl, rfl, rfl, fun _ _ => rfl, fun _ _ _ => rfl, fun x hx => absurd hx (h x)⟩
theorem OPN.tr {a b c : Mem} {P Q R : Nat → Prop} (h : OPN a b P) (g : OPN b c Q) (hR : ∀ x, R x ↔ P x ∨ Q x) : OPN a c R := by
  obtain ⟨h1, h2, h3, h4, h5, h6, h7, h8⟩ := h
  obtain ⟨g1, g2, g3, g4, g5, g6, g7, g8⟩ := g
  refine ⟨g1.trans h1, g2.trans h2, g3.trans h3, g4.trans h4, g5.trans h5, fun x hx => (g6 x (fun q => hx ((hR x).2 (Or.inr q)))).trans (h6 x (fun q => hx ((hR x).2 (Or.inl q)))), fun x j hj => (g7 x j hj).trans (h7 x j hj), fun x hx => ?_⟩
  by_cases q : Q x
  · exact g8 x q
  · rw [g6 x q]
    rcases (hR x).1 hx with p | p
    · exact h8 x p
    · exact absurd p q
theorem OPN.one (c : Mem) (y : Nat) : OPN c (sI c y 2 0) (fun x => x = y) := ⟨rfl, rfl, rfl, rfl, rfl, fun x hx => mI_sI_o hx, fun x j hj => mI_sI_j hj, fun x hx => by rw [hx, mI_sI_e]⟩
theorem lp_op (F : Nat) {q : Nat} : ∀ j k c M, k + j = 6 → j < M → shF c q → ∃ c', f_X2_openPurses_b10 F q M c (some (q + 12)) (nI 6) (nI k) = some ((), c') ∧ OPN c c' (fun x => ∃ l, k ≤ l ∧ l < 6 ∧ x = q + (13 + 4 * l)) := by
  intro j
  induction j with
  | zero =>
    intro k c M hk hM h
    obtain ⟨M, rfl⟩ : ∃ x, M = x + 1 := ⟨M - 1, by omega⟩
    have q1 : nI 6 ≤ nI k := nI_le (by omega) (by omega)
    refine ⟨c, ?_, OPN.rf c (fun x ⟨l, l1, l2, _⟩ => by omega)⟩
    show f_X2_openPurses_b10_it F (f_X2_openPurses_b10 F q M) q c (some (q + 12)) (nI 6) (nI k) = _
    simp only [f_X2_openPurses_b10_it, q1, nx_eq, ck_true, br_true, br_false, bd_eq, de_eq, mN_sI_, mK_sI_, mL_sI_, mI_sI_ap, mJ_sI_, mR_sI_, mN_sJ_, mK_sJ_, mL_sJ_, mI_sJ_, mJ_sJ_ap, mR_sJ_, mN_sR_, mK_sR_, mL_sR_, mI_sR_, mJ_sR_, mR_sR_ap, Nat.reduceEqDiff, Nat.reduceAdd, ↓reduceIte, and_true, true_and, and_false, false_and, or_true, true_or, or_false, false_or, not_true_eq_false, not_false_eq_true, i10, i01, ii01, ii02, ii03, ii04, ii05, ii12, ii13, ii14, ii15, ii20, ii21, ii23, ii24, ii25, ii30, ii31, ii32, ii34, ii35, ii40, ii41, ii42, ii43, ii45, ii50, ii51, ii52, ii53, ii54, bi_z, Option.some.injEq, reduceCtorEq, Nat.reduceLeDiff]
  | succ j ih =>
    intro k c M hk hM h
    obtain ⟨M, rfl⟩ : ∃ x, M = x + 1 := ⟨M - 1, by omega⟩
    obtain ⟨s1, s2, s3, s4⟩ := h.base
    have q1 : ¬ nI 6 ≤ nI k := nI_ge (by omega) (by decide)
    have vk := vp_nI (show k < 6 by omega) (show 6 < 2147483648 by decide)
    have nk := nI_cl (show k < 2147483648 by omega)
    obtain ⟨u1, u2, -⟩ := h.purse (show k < 6 by omega)
    have e0 : ((some (q + (13 + 4 * k)) : Option Nat) = none) = False := eq_false (fun e => by cases e)
    obtain ⟨c', w1, w2⟩ := ih (k + 1) (sI c (q + (13 + 4 * k)) 2 0) M (by omega) (by omega) h
    refine ⟨c', ?_, (OPN.one c (q + (13 + 4 * k))).tr w2 (fun x => ⟨fun ⟨l, l1, l2, l3⟩ => ?_, fun g => ?_⟩)⟩
    · show f_X2_openPurses_b10_it F (f_X2_openPurses_b10 F q M) q c (some (q + 12)) (nI 6) (nI k) = _
      simp only [f_X2_openPurses_b10_it, f_X2_openPurses_b31, q1, s3, s4, vk, nk, u1, u2, e0, nI_1, w1, nx_eq, ck_true, br_true, br_false, bd_eq, de_eq, and_self]
    · by_cases e : l = k
      · exact Or.inl (by rw [l3, e])
      · exact Or.inr ⟨l, by omega, l2, l3⟩
    · rcases g with g | ⟨l, l1, l2, l3⟩
      · exact ⟨k, Nat.le_refl _, by omega, g⟩
      · exact ⟨l, by omega, l2, l3⟩
theorem lp_opA (F : Nat) (hF : 1000 ≤ F) {Fl : Nat} {fid : Nat → Nat} (f6 : Fl ≤ 6) (f97 : ∀ f, f < Fl → 97 ≤ fid f) : ∀ j k c M, k + j = Fl → j < M → shC c → mI c 0 5 = nI Fl → (∀ f, f < Fl → mR c 32 f = some (fid f) ∧ shF c (fid f)) → ∃ c', f_X10_openAllPurses_b2 F 0 M c (nI k) = some ((), c') ∧ OPN c c' (fun x => ∃ f l, k ≤ f ∧ f < Fl ∧ l < 6 ∧ x = fid f + (13 + 4 * l)) := by
  intro j
  induction j with
  | zero =>
    intro k c M hk hM hC h5 hR
    obtain ⟨M, rfl⟩ : ∃ x, M = x + 1 := ⟨M - 1, by omega⟩
    have q1 : nI Fl ≤ nI k := nI_le (by omega) (by omega)
    refine ⟨c, ?_, OPN.rf c (fun x ⟨f, l, l1, l2, _⟩ => by omega)⟩
    show f_X10_openAllPurses_b2_it F (f_X10_openAllPurses_b2 F 0 M) 0 c (nI k) = _
    simp only [f_X10_openAllPurses_b2_it, hC, h5, q1, nx_eq, ck_true, br_true, br_false, bd_eq, de_eq, mN_sI_, mK_sI_, mL_sI_, mI_sI_ap, mJ_sI_, mR_sI_, mN_sJ_, mK_sJ_, mL_sJ_, mI_sJ_, mJ_sJ_ap, mR_sJ_, mN_sR_, mK_sR_, mL_sR_, mI_sR_, mJ_sR_, mR_sR_ap, Nat.reduceEqDiff, Nat.reduceAdd, ↓reduceIte, and_true, true_and, and_false, false_and, or_true, true_or, or_false, false_or, not_true_eq_false, not_false_eq_true, i10, i01, ii01, ii02, ii03, ii04, ii05, ii12, ii13, ii14, ii15, ii20, ii21, ii23, ii24, ii25, ii30, ii31, ii32, ii34, ii35, ii40, ii41, ii42, ii43, ii45, ii50, ii51, ii52, ii53, ii54, bi_z, Option.some.injEq, reduceCtorEq, Nat.reduceLeDiff]
  | succ j ih =>
    intro k c M hk hM hC h5 hR
    obtain ⟨M, rfl⟩ : ∃ x, M = x + 1 := ⟨M - 1, by omega⟩
    have hkF : k < Fl := by omega
    obtain ⟨r1, r2⟩ := hR k hkF
    have q1 : ¬ nI Fl ≤ nI k := nI_ge hkF (by omega)
    have q2 : ¬ nI k < 0 := nI_pos (by omega)
    have q3 : ¬ (6 : Int32) ≤ nI k := nI_ge (b := 6) (by omega) (by decide)
    have vk := vp_nI (show k < 6 by omega) (show 6 < 2147483648 by decide)
    have nk := nI_cl (show k < 2147483648 by omega)
    have eF : f_X10_flightAt F c 0 (nI k) = some (some (fid k), c) := by
      simp only [f_X10_flightAt, hC, h5, q1, q2, q3, vk, nk, r1, nx_eq, ck_true, br_true, br_false, bd_eq, de_eq, mN_sI_, mK_sI_, mL_sI_, mI_sI_ap, mJ_sI_, mR_sI_, mN_sJ_, mK_sJ_, mL_sJ_, mI_sJ_, mJ_sJ_ap, mR_sJ_, mN_sR_, mK_sR_, mL_sR_, mI_sR_, mJ_sR_, mR_sR_ap, Nat.reduceEqDiff, Nat.reduceAdd, ↓reduceIte, and_true, true_and, and_false, false_and, or_true, true_or, or_false, false_or, not_true_eq_false, not_false_eq_true, i10, i01, ii01, ii02, ii03, ii04, ii05, ii12, ii13, ii14, ii15, ii20, ii21, ii23, ii24, ii25, ii30, ii31, ii32, ii34, ii35, ii40, ii41, ii42, ii43, ii45, ii50, ii51, ii52, ii53, ii54, bi_z, Option.some.injEq, reduceCtorEq, Nat.reduceLeDiff]
    obtain ⟨s1, s2, s3, s4⟩ := r2.base
    have e0 : ((some (fid k) : Option Nat) = none) = False := eq_false (fun e => by cases e)
    obtain ⟨c1, w1, w2⟩ := lp_op F (q := fid k) 6 0 c F (by omega) (by omega) r2
    have w1' : f_X2_openPurses_b10 F (fid k) F c (some (fid k + 12)) (nI 6) (0 : Int32) = some ((), c1) := w1
    have g1 : (21 ≤ (26 : Nat)) = True := eq_true (by decide)
    have g2 : ((26 : Nat) ≤ 27) = True := eq_true (by decide)
    have eO : f_X2_openPurses F c (fid k) = some ((), c1) := by
      simp only [f_X2_openPurses, s1, s2, s3, s4, g1, g2, w1', nx_eq, ck_true, br_true, br_false, bd_eq, de_eq, mN_sI_, mK_sI_, mL_sI_, mI_sI_ap, mJ_sI_, mR_sI_, mN_sJ_, mK_sJ_, mL_sJ_, mI_sJ_, mJ_sJ_ap, mR_sJ_, mN_sR_, mK_sR_, mL_sR_, mI_sR_, mJ_sR_, mR_sR_ap, Nat.reduceEqDiff, Nat.reduceAdd, ↓reduceIte, and_true, true_and, and_false, false_and, or_true, true_or, or_false, false_or, not_true_eq_false, not_false_eq_true, i10, i01, ii01, ii02, ii03, ii04, ii05, ii12, ii13, ii14, ii15, ii20, ii21, ii23, ii24, ii25, ii30, ii31, ii32, ii34, ii35, ii40, ii41, ii42, ii43, ii45, ii50, ii51, ii52, ii53, ii54, bi_z, Option.some.injEq, reduceCtorEq, Nat.reduceLeDiff]
    have h97 := f97 k hkF
    have hC1 : shC c1 := hC.cg w2.1 w2.2.1 w2.2.2.1
    have h51 : mI c1 0 5 = nI Fl := by rw [w2.2.2.2.2.2.1 0 (fun ⟨l, l1, l2, l3⟩ => by omega)]; exact h5
    obtain ⟨c', x1, x2⟩ := ih (k + 1) c1 M (by omega) (by omega) hC1 h51 (fun f hf => by
      obtain ⟨y1, y2⟩ := hR f hf
      refine ⟨by rw [w2.2.2.1]; exact y1, ?_⟩
      unfold shF at y2 ⊢
      rw [w2.1, w2.2.1, w2.2.2.1]
      exact y2)
    refine ⟨c', ?_, w2.tr x2 (fun x => ⟨fun ⟨f, l, l0, l1, l2, l3⟩ => ?_, fun g => ?_⟩)⟩
    · show f_X10_openAllPurses_b2_it F (f_X10_openAllPurses_b2 F 0 M) 0 c (nI k) = _
      simp only [f_X10_openAllPurses_b2_it, f_X10_openAllPurses_b24, hC, h5, q1, eF, e0, s1, eO, nI_1, x1, nx_eq, ck_true, br_true, br_false, bd_eq, de_eq]
    · by_cases e : f = k
      · exact Or.inl ⟨l, Nat.zero_le _, l2, by rw [l3, e]⟩
      · exact Or.inr ⟨f, l, by omega, l1, l2, l3⟩
    · rcases g with ⟨l, l1, l2, l3⟩ | ⟨f, l, l0, l1, l2, l3⟩
      · exact ⟨k, l, Nat.le_refl _, hkF, l2, l3⟩
      · exact ⟨f, l, by omega, l1, l2, l3⟩
theorem lp_l96 (F : Nat) : ∀ j k m M, k + j = 36 → j < M → shM m → ∃ g, f_X11_lists_b96 F 50 M m (nI k) = some (mI m 50 32, wI m 74 g) ∧ (∀ i, k ≤ i → i < 36 → g i = 0) ∧ ∀ i, i < k ∨ 36 ≤ i → g i = mI m 74 i := by
  intro j
  induction j with
  | zero =>
    intro k m M hk hM2 hM
    obtain ⟨M, rfl⟩ : ∃ x, M = x + 1 := ⟨M - 1, by omega⟩
    have q1 : (36 : Int32) ≤ nI k := nI_le (a := 36) (by omega) (by omega)
    refine ⟨mI m 74, ?_, fun i h1 h2 => absurd h1 (by omega), fun _ _ => rfl⟩
    rw [wI_id]
    show f_X11_lists_b96_it F (f_X11_lists_b96 F 50 M) 50 m (nI k) = _
    simp only [f_X11_lists_b96_it, q1, hM, nx_eq, ck_true, br_true, br_false, bd_eq, de_eq, mN_sI_, mK_sI_, mL_sI_, mI_sI_ap, mJ_sI_, mR_sI_, mN_sJ_, mK_sJ_, mL_sJ_, mI_sJ_, mJ_sJ_ap, mR_sJ_, mN_sR_, mK_sR_, mL_sR_, mI_sR_, mJ_sR_, mR_sR_ap, Nat.reduceEqDiff, Nat.reduceAdd, ↓reduceIte, and_true, true_and, and_false, false_and, or_true, true_or, or_false, false_or, not_true_eq_false, not_false_eq_true, i10, i01, ii01, ii02, ii03, ii04, ii05, ii12, ii13, ii14, ii15, ii20, ii21, ii23, ii24, ii25, ii30, ii31, ii32, ii34, ii35, ii40, ii41, ii42, ii43, ii45, ii50, ii51, ii52, ii53, ii54, bi_z, Option.some.injEq, reduceCtorEq, Nat.reduceLeDiff]
  | succ j ih =>
    intro k m M hk hM2 hM
    obtain ⟨M, rfl⟩ : ∃ x, M = x + 1 := ⟨M - 1, by omega⟩
    have q1 : ¬ (36 : Int32) ≤ nI k := nI_ge (b := 36) (by omega) (by decide)
    have vk := vp_nI (show k < 36 by omega) (show 36 < 2147483648 by decide)
    have nk := nI_cl (show k < 2147483648 by omega)
    have hz : vp_nar .boolean (0 : Int32) = 0 := rfl
    obtain ⟨g, w1, w2, w3⟩ := ih (k + 1) (sI m 74 k 0) M (by omega) (by omega) (hM.cg rfl rfl rfl)
    have e1 : mI (sI m 74 k 0) 50 32 = mI m 50 32 := by rw [mI_sI_o (by decide)]
    have e2 : wI (sI m 74 k 0) 74 g = wI m 74 g := by
      rw [← wI_id m 74, sI_wI, wI_wI, wI_id]
    rw [e1, e2] at w1
    refine ⟨g, ?_, fun i h1 h2 => ?_, fun i hi => ?_⟩
    · show f_X11_lists_b96_it F (f_X11_lists_b96 F 50 M) 50 m (nI k) = _
      simp only [f_X11_lists_b96_it, q1, hM, vk, nk, hz, nI_1, w1, nx_eq, ck_true, br_true, br_false, bd_eq, de_eq, and_self]
    · by_cases e : i = k
      · rw [w3 i (by omega), e, mI_sI_e]
      · exact w2 i (by omega) h2
    · rw [w3 i (by omega), mI_sI_j (by omega)]
