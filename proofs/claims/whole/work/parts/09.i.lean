/-! points -/
theorem lp_po (F : Nat) {c : Mem} {z n b : Nat} (hR : shR c z) (hn : n ≤ 24) (c6 : mI c z 6 = nI n) (hb : b < 24) {A P : Nat → Nat} (hA : ∀ i, i < n → A i < 24 ∧ mI c (z + 1) i = nI (A i) ∧ mI c (z + 3) i = nI (P i)) :
    ∀ j k M, k + j = n → j < M → (∀ i, i < k → A i ≠ b) → ∃ r, f_X5_placeOf_b2 F z M c (nI b) (nI k) = some (r, c) ∧ ((r = -1 ∧ ∀ i, i < n → A i ≠ b) ∨ ∃ i, i < n ∧ A i = b ∧ r = nI (P i)) := by
  obtain ⟨r1, r2, r3, r4, r5, r6, r7, r8, r9, r10, r11, r12, r13, r14, r15, r16, r17, r18, r19⟩ := hR
  intro j
  induction j with
  | zero =>
    intro k M hk hM2 hno
    obtain ⟨M, rfl⟩ : ∃ x, M = x + 1 := ⟨M - 1, by omega⟩
    obtain rfl : k = n := by omega
    have q1 : nI k ≤ nI k := nI_le (Nat.le_refl _) (by omega)
    refine ⟨-1, ?_, Or.inl ⟨rfl, hno⟩⟩
    show f_X5_placeOf_b2_it F (f_X5_placeOf_b2 F z M) z c (nI b) (nI k) = _
    simp only [f_X5_placeOf_b2_it, r1, c6, q1, nx_eq, ck_true, br_true, br_false, bd_eq, de_eq, mN_sI_, mK_sI_, mL_sI_, mI_sI_ap, mJ_sI_, mR_sI_, mN_sJ_, mK_sJ_, mL_sJ_, mI_sJ_, mJ_sJ_ap, mR_sJ_, mN_sR_, mK_sR_, mL_sR_, mI_sR_, mJ_sR_, mR_sR_ap, Nat.reduceEqDiff, Nat.reduceAdd, ↓reduceIte, and_true, true_and, and_false, false_and, or_true, true_or, or_false, false_or, not_true_eq_false, not_false_eq_true, i10, i01, ii01, ii02, ii03, ii04, ii05, ii12, ii13, ii14, ii15, ii20, ii21, ii23, ii24, ii25, ii30, ii31, ii32, ii34, ii35, ii40, ii41, ii42, ii43, ii45, ii50, ii51, ii52, ii53, ii54, bi_z, Option.some.injEq, reduceCtorEq, Nat.reduceLeDiff]
  | succ j ih =>
    intro k M hk hM2 hno
    obtain ⟨M, rfl⟩ : ∃ x, M = x + 1 := ⟨M - 1, by omega⟩
    have hkn : k < n := by omega
    obtain ⟨a0, a1, a2⟩ := hA k hkn
    have q1 : ¬ nI n ≤ nI k := nI_ge hkn (by omega)
    have vk := vp_nI (show k < 24 by omega) (show 24 < 2147483648 by decide)
    have nk := nI_cl (show k < 2147483648 by omega)
    have ee : (nI (A k) = nI b) = (A k = b) := nI_eqk _ (by omega) (by omega)
    by_cases e : A k = b
    · refine ⟨nI (P k), ?_, Or.inr ⟨k, hkn, e, rfl⟩⟩
      show f_X5_placeOf_b2_it F (f_X5_placeOf_b2 F z M) z c (nI b) (nI k) = _
      simp only [f_X5_placeOf_b2_it, r1, r2, r4, r8, r10, r14, r16, c6, q1, vk, nk, a1, a2, ee, e, nx_eq, ck_true, br_true, br_false, bd_eq, de_eq, mN_sI_, mK_sI_, mL_sI_, mI_sI_ap, mJ_sI_, mR_sI_, mN_sJ_, mK_sJ_, mL_sJ_, mI_sJ_, mJ_sJ_ap, mR_sJ_, mN_sR_, mK_sR_, mL_sR_, mI_sR_, mJ_sR_, mR_sR_ap, Nat.reduceEqDiff, Nat.reduceAdd, ↓reduceIte, and_true, true_and, and_false, false_and, or_true, true_or, or_false, false_or, not_true_eq_false, not_false_eq_true, i10, i01, ii01, ii02, ii03, ii04, ii05, ii12, ii13, ii14, ii15, ii20, ii21, ii23, ii24, ii25, ii30, ii31, ii32, ii34, ii35, ii40, ii41, ii42, ii43, ii45, ii50, ii51, ii52, ii53, ii54, bi_z, Option.some.injEq, reduceCtorEq, Nat.reduceLeDiff]
    · obtain ⟨r, w1, w2⟩ := ih (k + 1) M (by omega) (by omega) (fun i hi => by
        by_cases e2 : i = k
        · rw [e2]; exact e
        · exact hno i (by omega))
      refine ⟨r, ?_, w2⟩
      show f_X5_placeOf_b2_it F (f_X5_placeOf_b2 F z M) z c (nI b) (nI k) = _
      simp only [f_X5_placeOf_b2_it, r1, r2, r8, r14, c6, q1, vk, nk, a1, ee, e, nI_1, w1, nx_eq, ck_true, br_true, br_false, bd_eq, de_eq, mN_sI_, mK_sI_, mL_sI_, mI_sI_ap, mJ_sI_, mR_sI_, mN_sJ_, mK_sJ_, mL_sJ_, mI_sJ_, mJ_sJ_ap, mR_sJ_, mN_sR_, mK_sR_, mL_sR_, mI_sR_, mJ_sR_, mR_sR_ap, Nat.reduceEqDiff, Nat.reduceAdd, ↓reduceIte, and_true, true_and, and_false, false_and, or_true, true_or, or_false, false_or, not_true_eq_false, not_false_eq_true, i10, i01, ii01, ii02, ii03, ii04, ii05, ii12, ii13, ii14, ii15, ii20, ii21, ii23, ii24, ii25, ii30, ii31, ii32, ii34, ii35, ii40, ii41, ii42, ii43, ii45, ii50, ii51, ii52, ii53, ii54, bi_z, Option.some.injEq, reduceCtorEq, Nat.reduceLeDiff]
def ptI (p : Nat) : Int32 := if p < 11 then 11 - nI p else 0
theorem e_ptAt (F : Nat) (c : Mem) {p : Nat} (h1 : 1 ≤ p) (h2 : p ≤ 24) : f_X10_pointsAt F c (nI p) = some (ptI p, c) := by
  have g1 : ¬ nI p < (1 : Int32) := nI_nlt (b := 1) h1 (by omega)
  unfold ptI
  by_cases e : p < 11
  · have g2 : ¬ (10 : Int32) < nI p := nI_nlt (a := 10) (by omega) (by decide)
    rw [if_pos e]
    simp only [f_X10_pointsAt, g1, g2, nx_eq, ck_true, br_true, br_false, bd_eq, de_eq, mN_sI_, mK_sI_, mL_sI_, mI_sI_ap, mJ_sI_, mR_sI_, mN_sJ_, mK_sJ_, mL_sJ_, mI_sJ_, mJ_sJ_ap, mR_sJ_, mN_sR_, mK_sR_, mL_sR_, mI_sR_, mJ_sR_, mR_sR_ap, Nat.reduceEqDiff, Nat.reduceAdd, ↓reduceIte, and_true, true_and, and_false, false_and, or_true, true_or, or_false, false_or, not_true_eq_false, not_false_eq_true, i10, i01, ii01, ii02, ii03, ii04, ii05, ii12, ii13, ii14, ii15, ii20, ii21, ii23, ii24, ii25, ii30, ii31, ii32, ii34, ii35, ii40, ii41, ii42, ii43, ii45, ii50, ii51, ii52, ii53, ii54, bi_z, Option.some.injEq, reduceCtorEq, Nat.reduceLeDiff]
  · have g2 : (10 : Int32) < nI p := nI_lt (a := 10) (by omega) (by omega)
    rw [if_neg e]
    simp only [f_X10_pointsAt, g1, g2, nx_eq, ck_true, br_true, br_false, bd_eq, de_eq, mN_sI_, mK_sI_, mL_sI_, mI_sI_ap, mJ_sI_, mR_sI_, mN_sJ_, mK_sJ_, mL_sJ_, mI_sJ_, mJ_sJ_ap, mR_sJ_, mN_sR_, mK_sR_, mL_sR_, mI_sR_, mJ_sR_, mR_sR_ap, Nat.reduceEqDiff, Nat.reduceAdd, ↓reduceIte, and_true, true_and, and_false, false_and, or_true, true_or, or_false, false_or, not_true_eq_false, not_false_eq_true, i10, i01, ii01, ii02, ii03, ii04, ii05, ii12, ii13, ii14, ii15, ii20, ii21, ii23, ii24, ii25, ii30, ii31, ii32, ii34, ii35, ii40, ii41, ii42, ii43, ii45, ii50, ii51, ii52, ii53, ii54, bi_z, Option.some.injEq, reduceCtorEq, Nat.reduceLeDiff]
theorem lp_pt (F : Nat) (K : Mem → Int32 → Int32 → Int32 → Int32 → Int32 → Option (Int32 × Mem)) {m : Mem} (hM : shM m) {n b : Nat} (hn : n ≤ 24) (m6 : mI m 50 60 = nI n) (hb : b < 24) {A P : Nat → Nat} (hA : ∀ i, i < n → A i < 24 ∧ P i ≤ 24 ∧ mI m 91 i = nI (A i) ∧ mI m 92 i = nI (P i)) (p2 p3 v5 : Int32) :
    ∀ j k v M, k + j = n → j < M → ((∀ i, k ≤ i → i < n → A i ≠ b) → f_X11_points_b69 F K 50 M m (nI b) p2 p3 v v5 (nI k) = f_X11_points_b126 F K 50 m (nI b) p2 p3 v v5) ∧ (∀ i, k ≤ i → i < n → A i = b → (∀ i', k ≤ i' → i' < n → A i' = b → i' = i) → f_X11_points_b69 F K 50 M m (nI b) p2 p3 v v5 (nI k) = f_X11_points_b126 F K 50 m (nI b) p2 p3 (v + ptI (P i)) v5) := by
  intro j
  induction j with
  | zero =>
    intro k v M hk hM2
    obtain ⟨M, rfl⟩ : ∃ x, M = x + 1 := ⟨M - 1, by omega⟩
    obtain rfl : k = n := by omega
    have q1 : nI k ≤ nI k := nI_le (Nat.le_refl _) (by omega)
    refine ⟨fun _ => ?_, fun i h1 h2 => absurd h1 (by omega)⟩
    show f_X11_points_b69_it F (f_X11_points_b69 F K 50 M) K 50 m (nI b) p2 p3 v v5 (nI k) = _
    simp only [f_X11_points_b69_it, hM, m6, q1, nx_eq, ck_true, br_true, br_false, bd_eq, de_eq, mN_sI_, mK_sI_, mL_sI_, mI_sI_ap, mJ_sI_, mR_sI_, mN_sJ_, mK_sJ_, mL_sJ_, mI_sJ_, mJ_sJ_ap, mR_sJ_, mN_sR_, mK_sR_, mL_sR_, mI_sR_, mJ_sR_, mR_sR_ap, Nat.reduceEqDiff, Nat.reduceAdd, ↓reduceIte, and_true, true_and, and_false, false_and, or_true, true_or, or_false, false_or, not_true_eq_false, not_false_eq_true, i10, i01, ii01, ii02, ii03, ii04, ii05, ii12, ii13, ii14, ii15, ii20, ii21, ii23, ii24, ii25, ii30, ii31, ii32, ii34, ii35, ii40, ii41, ii42, ii43, ii45, ii50, ii51, ii52, ii53, ii54, bi_z, Option.some.injEq, reduceCtorEq, Nat.reduceLeDiff]
  | succ j ih =>
    intro k v M hk hM2
    obtain ⟨M, rfl⟩ : ∃ x, M = x + 1 := ⟨M - 1, by omega⟩
    have hkn : k < n := by omega
    obtain ⟨a0, a3, a1, a2⟩ := hA k hkn
    have q1 : ¬ nI n ≤ nI k := nI_ge hkn (by omega)
    have vk := vp_nI (show k < 24 by omega) (show 24 < 2147483648 by decide)
    have nk := nI_cl (show k < 2147483648 by omega)
    have ee : (nI (A k) = nI b) = (A k = b) := nI_eqk _ (by omega) (by omega)
    have el : ((11 : Int32) ≤ nI (P k)) = (11 ≤ P k) := nI_lek (n := 11) _ (by decide) (by omega)
    by_cases e : A k = b
    · refine ⟨fun hno => absurd e (hno k (Nat.le_refl _) hkn), fun i h1 h2 h3 h4 => ?_⟩
      obtain rfl : k = i := h4 k (Nat.le_refl _) hkn e
      obtain ⟨w1, -⟩ := ih (k + 1) (v + ptI (P k)) M (by omega) (by omega)
      rw [← w1 (fun i' i1 i2 i3 => absurd (h4 i' (by omega) i2 i3) (by omega))]
      show f_X11_points_b69_it F (f_X11_points_b69 F K 50 M) K 50 m (nI b) p2 p3 v v5 (nI k) = _
      unfold ptI
      by_cases g : P k < 11
      · have g2 : ¬ 11 ≤ P k := by omega
        rw [if_pos g]
        simp only [f_X11_points_b69_it, f_X11_points_b117, hM, m6, q1, vk, nk, a1, a2, ee, e, el, g2, nI_1, nx_eq, ck_true, br_true, br_false, bd_eq, de_eq, mN_sI_, mK_sI_, mL_sI_, mI_sI_ap, mJ_sI_, mR_sI_, mN_sJ_, mK_sJ_, mL_sJ_, mI_sJ_, mJ_sJ_ap, mR_sJ_, mN_sR_, mK_sR_, mL_sR_, mI_sR_, mJ_sR_, mR_sR_ap, Nat.reduceEqDiff, Nat.reduceAdd, ↓reduceIte, and_true, true_and, and_false, false_and, or_true, true_or, or_false, false_or, not_true_eq_false, not_false_eq_true, i10, i01, ii01, ii02, ii03, ii04, ii05, ii12, ii13, ii14, ii15, ii20, ii21, ii23, ii24, ii25, ii30, ii31, ii32, ii34, ii35, ii40, ii41, ii42, ii43, ii45, ii50, ii51, ii52, ii53, ii54, bi_z, Option.some.injEq, reduceCtorEq, Nat.reduceLeDiff]
      · have g2 : 11 ≤ P k := by omega
        rw [if_neg g]
        simp only [f_X11_points_b69_it, f_X11_points_b116, f_X11_points_b117, hM, m6, q1, vk, nk, a1, a2, ee, e, el, g2, nI_1, nx_eq, ck_true, br_true, br_false, bd_eq, de_eq, mN_sI_, mK_sI_, mL_sI_, mI_sI_ap, mJ_sI_, mR_sI_, mN_sJ_, mK_sJ_, mL_sJ_, mI_sJ_, mJ_sJ_ap, mR_sJ_, mN_sR_, mK_sR_, mL_sR_, mI_sR_, mJ_sR_, mR_sR_ap, Nat.reduceEqDiff, Nat.reduceAdd, ↓reduceIte, and_true, true_and, and_false, false_and, or_true, true_or, or_false, false_or, not_true_eq_false, not_false_eq_true, i10, i01, ii01, ii02, ii03, ii04, ii05, ii12, ii13, ii14, ii15, ii20, ii21, ii23, ii24, ii25, ii30, ii31, ii32, ii34, ii35, ii40, ii41, ii42, ii43, ii45, ii50, ii51, ii52, ii53, ii54, bi_z, Option.some.injEq, reduceCtorEq, Nat.reduceLeDiff]
    · obtain ⟨w1, w2⟩ := ih (k + 1) v M (by omega) (by omega)
      have st : f_X11_points_b69 F K 50 (M + 1) m (nI b) p2 p3 v v5 (nI k) = f_X11_points_b69 F K 50 M m (nI b) p2 p3 v v5 (nI (k + 1)) := by
        show f_X11_points_b69_it F (f_X11_points_b69 F K 50 M) K 50 m (nI b) p2 p3 v v5 (nI k) = _
        simp only [f_X11_points_b69_it, f_X11_points_b116, f_X11_points_b117, hM, m6, q1, vk, nk, a1, ee, e, Int32.add_zero, nI_1, nx_eq, ck_true, br_true, br_false, bd_eq, de_eq, mN_sI_, mK_sI_, mL_sI_, mI_sI_ap, mJ_sI_, mR_sI_, mN_sJ_, mK_sJ_, mL_sJ_, mI_sJ_, mJ_sJ_ap, mR_sJ_, mN_sR_, mK_sR_, mL_sR_, mI_sR_, mJ_sR_, mR_sR_ap, Nat.reduceEqDiff, Nat.reduceAdd, ↓reduceIte, and_true, true_and, and_false, false_and, or_true, true_or, or_false, false_or, not_true_eq_false, not_false_eq_true, i10, i01, ii01, ii02, ii03, ii04, ii05, ii12, ii13, ii14, ii15, ii20, ii21, ii23, ii24, ii25, ii30, ii31, ii32, ii34, ii35, ii40, ii41, ii42, ii43, ii45, ii50, ii51, ii52, ii53, ii54, bi_z, Option.some.injEq, reduceCtorEq, Nat.reduceLeDiff]
      refine ⟨fun hno => st.trans (w1 (fun i i1 i2 => hno i (by omega) i2)), fun i h1 h2 h3 h4 => st.trans (w2 i ?_ h2 h3 (fun i' i1 i2 i3 => h4 i' (by omega) i2 i3))⟩
      have : i ≠ k := fun q => e (by rw [← q]; exact h3)
      omega
theorem lp_points (F : Nat) (hF : 1000 ≤ F) {L N Fl nw nl b fl kn : Nat} {fid S : Nat → Nat} (hbN : b < N) (hfl4 : fl ≤ 400) (hkn : kn ≤ 400) :
    ∀ j i M M' c m v, i + j = Fl → j < M → j < M' → shC c → shM m → Rclub c m L N → Rbook c m nw nl → Rfls c m L N Fl fid S →
      ∃ r c' m', f_X10_points_b33 F 0 M c (nI b) (nI fl) (nI kn) v (nI i) = some (r, c') ∧ f_X11_points_b35 F 50 M' m (nI b) (nI fl) (nI kn) v (nI i) = some (r, m') ∧ frK c c' ∧ (∀ x, 33 ≤ x → x ≤ 36 → mI c' x = mI c x) ∧ frR m m' := by
  intro j
  induction j with
  | zero =>
    intro i M M' c m v hi hM1 hM2 hC hM hcl hbk hfl
    obtain ⟨M, rfl⟩ : ∃ x, M = x + 1 := ⟨M - 1, by omega⟩
    obtain ⟨M', rfl⟩ : ∃ x, M' = x + 1 := ⟨M' - 1, by omega⟩
    obtain rfl : i = Fl := by omega
    have f1 := hfl.1
    have f2 := hfl.2.1
    have f3 := hfl.2.2.1
    have q1 : nI i ≤ nI i := nI_le (Nat.le_refl _) (by omega)
    refine ⟨v, c, m, ?_, ?_, frK.rf c, fun _ _ _ => rfl, frR.rf m⟩
    · show f_X10_points_b33_it F (f_X10_points_b33 F 0 M) 0 c (nI b) (nI fl) (nI kn) v (nI i) = _
      simp only [f_X10_points_b33_it, hC, f2, q1, nx_eq, ck_true, br_true, br_false, bd_eq, de_eq, mN_sI_, mK_sI_, mL_sI_, mI_sI_ap, mJ_sI_, mR_sI_, mN_sJ_, mK_sJ_, mL_sJ_, mI_sJ_, mJ_sJ_ap, mR_sJ_, mN_sR_, mK_sR_, mL_sR_, mI_sR_, mJ_sR_, mR_sR_ap, Nat.reduceEqDiff, Nat.reduceAdd, ↓reduceIte, and_true, true_and, and_false, false_and, or_true, true_or, or_false, false_or, not_true_eq_false, not_false_eq_true, i10, i01, ii01, ii02, ii03, ii04, ii05, ii12, ii13, ii14, ii15, ii20, ii21, ii23, ii24, ii25, ii30, ii31, ii32, ii34, ii35, ii40, ii41, ii42, ii43, ii45, ii50, ii51, ii52, ii53, ii54, bi_z, Option.some.injEq, reduceCtorEq, Nat.reduceLeDiff]
    · show f_X11_points_b35_it F (f_X11_points_b35 F 50 M') 50 m (nI b) (nI fl) (nI kn) v (nI i) = _
      simp only [f_X11_points_b35_it, hM, f3, q1, nx_eq, ck_true, br_true, br_false, bd_eq, de_eq, mN_sI_, mK_sI_, mL_sI_, mI_sI_ap, mJ_sI_, mR_sI_, mN_sJ_, mK_sJ_, mL_sJ_, mI_sJ_, mJ_sJ_ap, mR_sJ_, mN_sR_, mK_sR_, mL_sR_, mI_sR_, mJ_sR_, mR_sR_ap, Nat.reduceEqDiff, Nat.reduceAdd, ↓reduceIte, and_true, true_and, and_false, false_and, or_true, true_or, or_false, false_or, not_true_eq_false, not_false_eq_true, i10, i01, ii01, ii02, ii03, ii04, ii05, ii12, ii13, ii14, ii15, ii20, ii21, ii23, ii24, ii25, ii30, ii31, ii32, ii34, ii35, ii40, ii41, ii42, ii43, ii45, ii50, ii51, ii52, ii53, ii54, bi_z, Option.some.injEq, reduceCtorEq, Nat.reduceLeDiff]
  | succ j ih =>
    intro i M M' c m v hi hM1 hM2 hC hM hcl hbk hfl
    obtain ⟨M, rfl⟩ : ∃ x, M = x + 1 := ⟨M - 1, by omega⟩
    obtain ⟨M', rfl⟩ : ∃ x, M' = x + 1 := ⟨M' - 1, by omega⟩
    have hiF : i < Fl := by omega
    have f1 := hfl.1
    have f2 := hfl.2.1
    have f3 := hfl.2.2.1
    have b2 := hbk.2.1
    have q1 : ¬ nI Fl ≤ nI i := nI_ge hiF (by omega)
    have vi := vp_nI (show i < 6 by omega) (show 6 < 2147483648 by decide)
    have ni := nI_cl (show i < 2147483648 by omega)
    obtain ⟨-, hsF, -, hB, -, -, hRD, -⟩ := hfl.2.2.2.1 i hiF
    obtain ⟨-, -, -, -, -, -, r7, -, -, -, ⟨dy, dy1, dy2⟩, -, -⟩ := hB
    rw [dy2] at r7
    have k3 := hsF.base.1
    have eA := e_fA_in F hC hfl hiF
    have ed : (nI fl < nI dy) = (fl < dy) := nI_ltk _ (by omega) (by omega)
    have ed2 : (nI dy ≤ nI fl) = (dy ≤ fl) := nI_lek _ (by omega) (by omega)
    by_cases e : fl < dy
    · have e2 : ¬ dy ≤ fl := by omega
      obtain ⟨r, c', m', w1, w2, w3⟩ := ih (i + 1) M M' c m v (by omega) (by omega) (by omega) hC hM hcl hbk hfl
      refine ⟨r, c', m', ?_, ?_, w3⟩
      · show f_X10_points_b33_it F (f_X10_points_b33 F 0 M) 0 c (nI b) (nI fl) (nI kn) v (nI i) = _
        simp only [f_X10_points_b33_it, f_X10_points_b92, hC, f2, q1, eA, k3, r7, ed, e, nI_1, w1, nx_eq, ck_true, br_true, br_false, bd_eq, de_eq, mN_sI_, mK_sI_, mL_sI_, mI_sI_ap, mJ_sI_, mR_sI_, mN_sJ_, mK_sJ_, mL_sJ_, mI_sJ_, mJ_sJ_ap, mR_sJ_, mN_sR_, mK_sR_, mL_sR_, mI_sR_, mJ_sR_, mR_sR_ap, Nat.reduceEqDiff, Nat.reduceAdd, ↓reduceIte, and_true, true_and, and_false, false_and, or_true, true_or, or_false, false_or, not_true_eq_false, not_false_eq_true, i10, i01, ii01, ii02, ii03, ii04, ii05, ii12, ii13, ii14, ii15, ii20, ii21, ii23, ii24, ii25, ii30, ii31, ii32, ii34, ii35, ii40, ii41, ii42, ii43, ii45, ii50, ii51, ii52, ii53, ii54, bi_z, Option.some.injEq, reduceCtorEq, Nat.reduceLeDiff]
      · show f_X11_points_b35_it F (f_X11_points_b35 F 50 M') 50 m (nI b) (nI fl) (nI kn) v (nI i) = _
        simp only [f_X11_points_b35_it, f_X11_points_b126, hM, f3, q1, vi, ni, dy2, ed2, e2, nI_1, w2, nx_eq, ck_true, br_true, br_false, bd_eq, de_eq, mN_sI_, mK_sI_, mL_sI_, mI_sI_ap, mJ_sI_, mR_sI_, mN_sJ_, mK_sJ_, mL_sJ_, mI_sJ_, mJ_sJ_ap, mR_sJ_, mN_sR_, mK_sR_, mL_sR_, mI_sR_, mJ_sR_, mR_sR_ap, Nat.reduceEqDiff, Nat.reduceAdd, ↓reduceIte, and_true, true_and, and_false, false_and, or_true, true_or, or_false, false_or, not_true_eq_false, not_false_eq_true, i10, i01, ii01, ii02, ii03, ii04, ii05, ii12, ii13, ii14, ii15, ii20, ii21, ii23, ii24, ii25, ii30, ii31, ii32, ii34, ii35, ii40, ii41, ii42, ii43, ii45, ii50, ii51, ii52, ii53, ii54, bi_z, Option.some.injEq, reduceCtorEq, Nat.reduceLeDiff]
    · have e2 : dy ≤ fl := by omega
      obtain ⟨hD, hCF, hMF⟩ := DCM hC hM hcl hfl hiF
      have hN := hD.2.2.2.1
      obtain ⟨c1, m1, n, ln, e3, e4, fy, fr, hK⟩ := e_rank F hF (Or.inr rfl) hD hCF hMF hcl hbk hRD (show 0 < nl by omega) hkn
      have e3' : f_X10_rankInto F c 0 (some 40) (some (fid i)) (0 : Int32) (nI kn) = some ((), c1) := e3
      have e4' : f_X11_results F m 50 (nI i) (0 : Int32) (nI kn) = some ((), m1) := e4
      obtain ⟨r0, r1, r2, r3, r4, r5, r6, r7', r8⟩ := hK
      have fk := fy.frK (Or.inr rfl)
      have hC1 := fk.shC hC
      have hM1' := fr.shM hM
      generalize hpl : plN m i (S i) (zlast m i (mI c 19 0)) kn ln = P at *
      have hPb : ∀ i', 1 ≤ P i' ∧ P i' ≤ i' + 1 := fun i' => by rw [← hpl]; exact plN_le _ _ _ _ _ _ _
      obtain ⟨r, x1, x2⟩ := lp_po F (hC1.rk (Or.inr rfl)) r1 r2 (show b < 24 by omega) (A := ln) (P := P) (fun i' hi' => by
        obtain ⟨a1, -, -, a4, -⟩ := r4 i' hi'
        exact ⟨by omega, a4, (r5 i' hi').1⟩) n 0 F (by omega) (by omega) (fun i' hi' => absurd hi' (by omega))
      have x1' : f_X5_placeOf F c1 40 (nI b) = some (r, c1) := x1
      have hpt := lp_pt F (f_X11_points_b35 F 50 M') hM1' r1 r3 (show b < 24 by omega) (A := ln) (P := P) (fun i' hi' => by
        obtain ⟨a1, -, -, -, -, -, -, a8⟩ := r4 i' hi'
        have := hPb i'
        exact ⟨by omega, by omega, a8, (r5 i' hi').2⟩) (nI fl) (nI kn) (nI i) n 0 v F (by omega) (by omega)
      obtain ⟨w, y1, y2⟩ : ∃ w, f_X10_pointsAt F c1 r = some (w, c1) ∧ f_X11_points_b69 F (f_X11_points_b35 F 50 M') 50 F m1 (nI b) (nI fl) (nI kn) v (nI i) (nI 0) = f_X11_points_b126 F (f_X11_points_b35 F 50 M') 50 m1 (nI b) (nI fl) (nI kn) (v + w) (nI i) := by
        rcases x2 with ⟨rfl, x3⟩ | ⟨i0, x3, x4, rfl⟩
        · refine ⟨0, ?_, ?_⟩
          · have g1 : (-1 : Int32) < 1 := by decide
            simp only [f_X10_pointsAt, g1, nx_eq, ck_true, br_true, br_false, bd_eq, de_eq, mN_sI_, mK_sI_, mL_sI_, mI_sI_ap, mJ_sI_, mR_sI_, mN_sJ_, mK_sJ_, mL_sJ_, mI_sJ_, mJ_sJ_ap, mR_sJ_, mN_sR_, mK_sR_, mL_sR_, mI_sR_, mJ_sR_, mR_sR_ap, Nat.reduceEqDiff, Nat.reduceAdd, ↓reduceIte, and_true, true_and, and_false, false_and, or_true, true_or, or_false, false_or, not_true_eq_false, not_false_eq_true, i10, i01, ii01, ii02, ii03, ii04, ii05, ii12, ii13, ii14, ii15, ii20, ii21, ii23, ii24, ii25, ii30, ii31, ii32, ii34, ii35, ii40, ii41, ii42, ii43, ii45, ii50, ii51, ii52, ii53, ii54, bi_z, Option.some.injEq, reduceCtorEq, Nat.reduceLeDiff]
          · rw [Int32.add_zero]
            exact hpt.1 (fun i' _ h2 => x3 i' h2)
        · have hp := hPb i0
          refine ⟨ptI (P i0), e_ptAt F c1 hp.1 (by omega), hpt.2 i0 (by omega) x3 x4 (fun i' _ h2 h3 => ?_)⟩
          rcases Nat.lt_trichotomy i' i0 with q | q | q
          · exact absurd (h3.trans x4.symm) (r6 i' i0 q x3)
          · exact q
          · exact absurd (x4.trans h3.symm) (r6 i0 i' q h2)
      have y2' : f_X11_points_b69 F (f_X11_points_b35 F 50 M') 50 F m1 (nI b) (nI fl) (nI kn) v (nI i) (0 : Int32) = _ := y2
      obtain ⟨r', c', m', w1, w2, w3, w4, w5⟩ := ih (i + 1) M M' c1 m1 (v + w) (by omega) (by omega) (by omega) hC1 hM1' (hcl.fr fk fr) (hbk.fr fk fr) (hfl.fr fk fr)
      refine ⟨r', c', m', ?_, ?_, fk.tr w3, fun x h1 h2 => (w4 x h1 h2).trans (fy.2.2.2.2.1 x (by omega) (by omega)), fr.tr w5⟩
      · show f_X10_points_b33_it F (f_X10_points_b33 F 0 M) 0 c (nI b) (nI fl) (nI kn) v (nI i) = _
        simp only [f_X10_points_b33_it, f_X10_points_b92, hC, f2, q1, eA, k3, r7, ed, e, e3', hC1, x1', y1, nI_1, w1, nx_eq, ck_true, br_true, br_false, bd_eq, de_eq, mN_sI_, mK_sI_, mL_sI_, mI_sI_ap, mJ_sI_, mR_sI_, mN_sJ_, mK_sJ_, mL_sJ_, mI_sJ_, mJ_sJ_ap, mR_sJ_, mN_sR_, mK_sR_, mL_sR_, mI_sR_, mJ_sR_, mR_sR_ap, Nat.reduceEqDiff, Nat.reduceAdd, ↓reduceIte, and_true, true_and, and_false, false_and, or_true, true_or, or_false, false_or, not_true_eq_false, not_false_eq_true, i10, i01, ii01, ii02, ii03, ii04, ii05, ii12, ii13, ii14, ii15, ii20, ii21, ii23, ii24, ii25, ii30, ii31, ii32, ii34, ii35, ii40, ii41, ii42, ii43, ii45, ii50, ii51, ii52, ii53, ii54, bi_z, Option.some.injEq, reduceCtorEq, Nat.reduceLeDiff]
      · show f_X11_points_b35_it F (f_X11_points_b35 F 50 M') 50 m (nI b) (nI fl) (nI kn) v (nI i) = _
        simp only [f_X11_points_b35_it, hM, f3, q1, vi, ni, dy2, ed2, e2, e4', y2', f_X11_points_b126, nI_1, w2, nx_eq, ck_true, br_true, br_false, bd_eq, de_eq, mN_sI_, mK_sI_, mL_sI_, mI_sI_ap, mJ_sI_, mR_sI_, mN_sJ_, mK_sJ_, mL_sJ_, mI_sJ_, mJ_sJ_ap, mR_sJ_, mN_sR_, mK_sR_, mL_sR_, mI_sR_, mJ_sR_, mR_sR_ap, Nat.reduceEqDiff, Nat.reduceAdd, ↓reduceIte, and_true, true_and, and_false, false_and, or_true, true_or, or_false, false_or, not_true_eq_false, not_false_eq_true, i10, i01, ii01, ii02, ii03, ii04, ii05, ii12, ii13, ii14, ii15, ii20, ii21, ii23, ii24, ii25, ii30, ii31, ii32, ii34, ii35, ii40, ii41, ii42, ii43, ii45, ii50, ii51, ii52, ii53, ii54, bi_z, Option.some.injEq, reduceCtorEq, Nat.reduceLeDiff]
theorem sim_points (F : Nat) (hF : 1000 ≤ F) {c m : Mem} (h : Rel c m) (p1 p2 p3 : Int32) : Sim (f_X10_points F c 0 p1 p2 p3) (f_X11_points F m 50 p1 p2 p3) := by
  have hC := h.1
  have hM := h.2.1
  have h1 := h.thr 0
  obtain ⟨nw, nl, hbk⟩ := h1.2.2.2.2.2.2.1
  obtain ⟨L, N, hcl, Fl, fid, S, hfl⟩ := h1.2.2.2.2.2.2.2
  have hM1 := h1.2.1
  have f1 := hfl.1
  have k2 := hcl.2.1
  have k5 := hcl.2.2.2.2.1
  have k6 := hcl.2.2.2.2.2.1
  rcases ix_or p1 (n := N) (by omega) with ⟨b, hb, rfl⟩ | hb
  · by_cases d1 : rgI 400 p2
    · by_cases d2 : rgI 400 p3
      · obtain ⟨fl, h2, rfl⟩ := rgI_rg (h := 400) (by decide) d1
        obtain ⟨kn, h3, rfl⟩ := rgI_rg (h := 400) (by decide) d2
        obtain ⟨r, c', m', w1, w2, w3, w4, w5⟩ := lp_points F hF hb h2 h3 Fl 0 F F c (sI m 50 2 0) 0 (by omega) (by omega) (by omega) hC hM1 hcl hbk hfl
        have w1' : f_X10_points_b33 F 0 F c (nI b) (nI fl) (nI kn) (0 : Int32) (0 : Int32) = some (r, c') := w1
        have w2' : f_X11_points_b35 F 50 F (sI m 50 2 0) (nI b) (nI fl) (nI kn) (0 : Int32) (0 : Int32) = some (r, m') := w2
        refine Sim.of (r := r) (c' := c') (m' := m') ?_ ?_ (h1.wk w3 w4 w5)
        · simp only [f_X10_points, e_X1_hasBird, e_X10_isDay, hC, k5, bx_in hb (show N < 2147483648 by omega), d1, d2, w1', nx_eq, ck_true, br_true, br_false, bd_eq, de_eq, mN_sI_, mK_sI_, mL_sI_, mI_sI_ap, mJ_sI_, mR_sI_, mN_sJ_, mK_sJ_, mL_sJ_, mI_sJ_, mJ_sJ_ap, mR_sJ_, mN_sR_, mK_sR_, mL_sR_, mI_sR_, mJ_sR_, mR_sR_ap, Nat.reduceEqDiff, Nat.reduceAdd, ↓reduceIte, and_true, true_and, and_false, false_and, or_true, true_or, or_false, false_or, not_true_eq_false, not_false_eq_true, i10, i01, ii01, ii02, ii03, ii04, ii05, ii12, ii13, ii14, ii15, ii20, ii21, ii23, ii24, ii25, ii30, ii31, ii32, ii34, ii35, ii40, ii41, ii42, ii43, ii45, ii50, ii51, ii52, ii53, ii54, bi_z, Option.some.injEq, reduceCtorEq, Nat.reduceLeDiff]
        · have bb := bx_in hb (show N < 2147483648 by omega)
          have eB1 := e_X11_isBird F (sI m 50 2 0) 50 (by simp only [hM1]) (nI b)
          rw [k6, bb] at eB1
          have eD1 := e_X11_isDay F (sI m 50 2 0) (nI fl)
          rw [bi_t d1] at eD1
          have eD2 := e_X11_isDay F (sI m 50 2 0) (nI kn)
          rw [bi_t d2] at eD2
          simp only [f_X11_points, hM, eB1, eD1, eD2, w2', nx_eq, ck_true, br_true, br_false, bd_eq, de_eq, mN_sI_, mK_sI_, mL_sI_, mI_sI_ap, mJ_sI_, mR_sI_, mN_sJ_, mK_sJ_, mL_sJ_, mI_sJ_, mJ_sJ_ap, mR_sJ_, mN_sR_, mK_sR_, mL_sR_, mI_sR_, mJ_sR_, mR_sR_ap, Nat.reduceEqDiff, Nat.reduceAdd, ↓reduceIte, and_true, true_and, and_false, false_and, or_true, true_or, or_false, false_or, not_true_eq_false, not_false_eq_true, i10, i01, ii01, ii02, ii03, ii04, ii05, ii12, ii13, ii14, ii15, ii20, ii21, ii23, ii24, ii25, ii30, ii31, ii32, ii34, ii35, ii40, ii41, ii42, ii43, ii45, ii50, ii51, ii52, ii53, ii54, bi_z, Option.some.injEq, reduceCtorEq, Nat.reduceLeDiff]
      · refine Sim.of (r := -1) (c' := c) (m' := sI m 50 2 0) ?_ ?_ h1
        · simp only [f_X10_points, e_X1_hasBird, e_X10_isDay, hC, k5, bx_in hb (show N < 2147483648 by omega), d1, d2, nx_eq, ck_true, br_true, br_false, bd_eq, de_eq, mN_sI_, mK_sI_, mL_sI_, mI_sI_ap, mJ_sI_, mR_sI_, mN_sJ_, mK_sJ_, mL_sJ_, mI_sJ_, mJ_sJ_ap, mR_sJ_, mN_sR_, mK_sR_, mL_sR_, mI_sR_, mJ_sR_, mR_sR_ap, Nat.reduceEqDiff, Nat.reduceAdd, ↓reduceIte, and_true, true_and, and_false, false_and, or_true, true_or, or_false, false_or, not_true_eq_false, not_false_eq_true, i10, i01, ii01, ii02, ii03, ii04, ii05, ii12, ii13, ii14, ii15, ii20, ii21, ii23, ii24, ii25, ii30, ii31, ii32, ii34, ii35, ii40, ii41, ii42, ii43, ii45, ii50, ii51, ii52, ii53, ii54, bi_z, Option.some.injEq, reduceCtorEq, Nat.reduceLeDiff]
        · have bb := bx_in hb (show N < 2147483648 by omega)
          have eB1 := e_X11_isBird F (sI m 50 2 0) 50 (by simp only [hM1]) (nI b)
          rw [k6, bb] at eB1
          simp only [f_X11_points, hM, eB1, e_X11_isDay, d1, d2, nx_eq, ck_true, br_true, br_false, bd_eq, de_eq, mN_sI_, mK_sI_, mL_sI_, mI_sI_ap, mJ_sI_, mR_sI_, mN_sJ_, mK_sJ_, mL_sJ_, mI_sJ_, mJ_sJ_ap, mR_sJ_, mN_sR_, mK_sR_, mL_sR_, mI_sR_, mJ_sR_, mR_sR_ap, Nat.reduceEqDiff, Nat.reduceAdd, ↓reduceIte, and_true, true_and, and_false, false_and, or_true, true_or, or_false, false_or, not_true_eq_false, not_false_eq_true, i10, i01, ii01, ii02, ii03, ii04, ii05, ii12, ii13, ii14, ii15, ii20, ii21, ii23, ii24, ii25, ii30, ii31, ii32, ii34, ii35, ii40, ii41, ii42, ii43, ii45, ii50, ii51, ii52, ii53, ii54, bi_z, Option.some.injEq, reduceCtorEq, Nat.reduceLeDiff]
    · refine Sim.of (r := -1) (c' := c) (m' := sI m 50 2 0) ?_ ?_ h1
      · simp only [f_X10_points, e_X1_hasBird, e_X10_isDay, hC, k5, bx_in hb (show N < 2147483648 by omega), d1, nx_eq, ck_true, br_true, br_false, bd_eq, de_eq, mN_sI_, mK_sI_, mL_sI_, mI_sI_ap, mJ_sI_, mR_sI_, mN_sJ_, mK_sJ_, mL_sJ_, mI_sJ_, mJ_sJ_ap, mR_sJ_, mN_sR_, mK_sR_, mL_sR_, mI_sR_, mJ_sR_, mR_sR_ap, Nat.reduceEqDiff, Nat.reduceAdd, ↓reduceIte, and_true, true_and, and_false, false_and, or_true, true_or, or_false, false_or, not_true_eq_false, not_false_eq_true, i10, i01, ii01, ii02, ii03, ii04, ii05, ii12, ii13, ii14, ii15, ii20, ii21, ii23, ii24, ii25, ii30, ii31, ii32, ii34, ii35, ii40, ii41, ii42, ii43, ii45, ii50, ii51, ii52, ii53, ii54, bi_z, Option.some.injEq, reduceCtorEq, Nat.reduceLeDiff]
      · have bb := bx_in hb (show N < 2147483648 by omega)
        have eB1 := e_X11_isBird F (sI m 50 2 0) 50 (by simp only [hM1]) (nI b)
        rw [k6, bb] at eB1
        simp only [f_X11_points, hM, eB1, e_X11_isDay, d1, nx_eq, ck_true, br_true, br_false, bd_eq, de_eq, mN_sI_, mK_sI_, mL_sI_, mI_sI_ap, mJ_sI_, mR_sI_, mN_sJ_, mK_sJ_, mL_sJ_, mI_sJ_, mJ_sJ_ap, mR_sJ_, mN_sR_, mK_sR_, mL_sR_, mI_sR_, mJ_sR_, mR_sR_ap, Nat.reduceEqDiff, Nat.reduceAdd, ↓reduceIte, and_true, true_and, and_false, false_and, or_true, true_or, or_false, false_or, not_true_eq_false, not_false_eq_true, i10, i01, ii01, ii02, ii03, ii04, ii05, ii12, ii13, ii14, ii15, ii20, ii21, ii23, ii24, ii25, ii30, ii31, ii32, ii34, ii35, ii40, ii41, ii42, ii43, ii45, ii50, ii51, ii52, ii53, ii54, bi_z, Option.some.injEq, reduceCtorEq, Nat.reduceLeDiff]
  · refine Sim.of (r := -1) (c' := c) (m' := sI m 50 2 0) ?_ ?_ h1
    · simp only [f_X10_points, e_X1_hasBird, hC, k5, bx_out hb, nx_eq, ck_true, br_true, br_false, bd_eq, de_eq, mN_sI_, mK_sI_, mL_sI_, mI_sI_ap, mJ_sI_, mR_sI_, mN_sJ_, mK_sJ_, mL_sJ_, mI_sJ_, mJ_sJ_ap, mR_sJ_, mN_sR_, mK_sR_, mL_sR_, mI_sR_, mJ_sR_, mR_sR_ap, Nat.reduceEqDiff, Nat.reduceAdd, ↓reduceIte, and_true, true_and, and_false, false_and, or_true, true_or, or_false, false_or, not_true_eq_false, not_false_eq_true, i10, i01, ii01, ii02, ii03, ii04, ii05, ii12, ii13, ii14, ii15, ii20, ii21, ii23, ii24, ii25, ii30, ii31, ii32, ii34, ii35, ii40, ii41, ii42, ii43, ii45, ii50, ii51, ii52, ii53, ii54, bi_z, Option.some.injEq, reduceCtorEq, Nat.reduceLeDiff]
    · have eB1 := e_X11_isBird F (sI m 50 2 0) 50 (by simp only [hM1]) p1
      rw [k6, bx_out hb] at eB1
      simp only [f_X11_points, hM, eB1, nx_eq, ck_true, br_true, br_false, bd_eq, de_eq, mN_sI_, mK_sI_, mL_sI_, mI_sI_ap, mJ_sI_, mR_sI_, mN_sJ_, mK_sJ_, mL_sJ_, mI_sJ_, mJ_sJ_ap, mR_sJ_, mN_sR_, mK_sR_, mL_sR_, mI_sR_, mJ_sR_, mR_sR_ap, Nat.reduceEqDiff, Nat.reduceAdd, ↓reduceIte, and_true, true_and, and_false, false_and, or_true, true_or, or_false, false_or, not_true_eq_false, not_false_eq_true, i10, i01, ii01, ii02, ii03, ii04, ii05, ii12, ii13, ii14, ii15, ii20, ii21, ii23, ii24, ii25, ii30, ii31, ii32, ii34, ii35, ii40, ii41, ii42, ii43, ii45, ii50, ii51, ii52, ii53, ii54, bi_z, Option.some.injEq, reduceCtorEq, Nat.reduceLeDiff]
