/-! places -/
noncomputable def plN (d : Mem) (f S last day : Nat) (ln : Nat → Nat) : Nat → Nat
  | 0 => 1
  | i + 1 => if vB d f S last day (ln i) (ln (i + 1)) = 0 then plN d f S last day ln i else i + 2
theorem plN_le (d : Mem) (f S last day : Nat) (ln : Nat → Nat) : ∀ i, 1 ≤ plN d f S last day ln i ∧ plN d f S last day ln i ≤ i + 1 := by
  intro i
  induction i with
  | zero => exact ⟨Nat.le_refl _, Nat.le_refl _⟩
  | succ i ih =>
    show 1 ≤ (if vB d f S last day (ln i) (ln (i + 1)) = 0 then plN d f S last day ln i else i + 2) ∧ (if vB d f S last day (ln i) (ln (i + 1)) = 0 then plN d f S last day ln i else i + 2) ≤ i + 1 + 1
    by_cases e : vB d f S last day (ln i) (ln (i + 1)) = 0
    · rw [if_pos e]; omega
    · rw [if_neg e]; omega
theorem lp_pl (F : Nat) (hF : 101 ≤ F) {d : Mem} {f S L N last day z n : Nat} {ln : Nat → Nat} (hD : DF d f S L N) (hl : last ≤ 40000) (hz : z = 33 ∨ z = 40) (hn : n ≤ 24) :
    ∀ j k M M' c m, k + j = n → j < M → j < M' → shR c z → MF d m f S N → BST d m f S N last day → mI c z 6 = nI n → mI m 50 60 = nI n → (∀ i, i < n → ent d f S N last day c m z i (ln i)) → (∀ i, i < k → mI c (z + 3) i = nI (plN d f S last day ln i) ∧ mI m 92 i = nI (plN d f S last day ln i)) →
      ∃ c' m', f_X5_setPlaces_b2 F z M c (nI k) = some ((), c') ∧ f_X11_results_b314 F 50 M' m (nI f) (nI k) = some ((), m') ∧ frZ z c c' ∧ frQ m m' ∧ mI c' z 6 = nI n ∧ mI m' 50 60 = nI n ∧ (∀ i, i < n → ent d f S N last day c' m' z i (ln i)) ∧ ∀ i, i < n → mI c' (z + 3) i = nI (plN d f S last day ln i) ∧ mI m' 92 i = nI (plN d f S last day ln i) := by
  intro j
  induction j with
  | zero =>
    intro k M M' c m hk hM1 hM2 hR hMF hB c6 m6 hent hpl
    obtain ⟨M, rfl⟩ : ∃ x, M = x + 1 := ⟨M - 1, by omega⟩
    obtain ⟨M', rfl⟩ : ∃ x, M' = x + 1 := ⟨M' - 1, by omega⟩
    obtain rfl : k = n := by omega
    have hM := hMF.1
    have kz := hR.1
    have q1 : nI k ≤ nI k := nI_le (Nat.le_refl _) (by omega)
    refine ⟨c, m, ?_, ?_, frZ.rf z c, frQ.rf m, c6, m6, hent, hpl⟩
    · show f_X5_setPlaces_b2_it F (f_X5_setPlaces_b2 F z M) z c (nI k) = _
      simp only [f_X5_setPlaces_b2_it, kz, c6, q1, nx_eq, ck_true, br_true, br_false, bd_eq, de_eq, mN_sI_, mK_sI_, mL_sI_, mI_sI_ap, mJ_sI_, mR_sI_, mN_sJ_, mK_sJ_, mL_sJ_, mI_sJ_, mJ_sJ_ap, mR_sJ_, mN_sR_, mK_sR_, mL_sR_, mI_sR_, mJ_sR_, mR_sR_ap, Nat.reduceEqDiff, Nat.reduceAdd, ↓reduceIte, and_true, true_and, and_false, false_and, or_true, true_or, or_false, false_or, not_true_eq_false, not_false_eq_true, i10, i01, ii01, ii02, ii03, ii04, ii05, ii12, ii13, ii14, ii15, ii20, ii21, ii23, ii24, ii25, ii30, ii31, ii32, ii34, ii35, ii40, ii41, ii42, ii43, ii45, ii50, ii51, ii52, ii53, ii54, bi_z, Option.some.injEq, reduceCtorEq, Nat.reduceLeDiff]
    · show f_X11_results_b314_it F (f_X11_results_b314 F 50 M') 50 m (nI f) (nI k) = _
      simp only [f_X11_results_b314_it, hM, m6, q1, nx_eq, ck_true, br_true, br_false, bd_eq, de_eq, mN_sI_, mK_sI_, mL_sI_, mI_sI_ap, mJ_sI_, mR_sI_, mN_sJ_, mK_sJ_, mL_sJ_, mI_sJ_, mJ_sJ_ap, mR_sJ_, mN_sR_, mK_sR_, mL_sR_, mI_sR_, mJ_sR_, mR_sR_ap, Nat.reduceEqDiff, Nat.reduceAdd, ↓reduceIte, and_true, true_and, and_false, false_and, or_true, true_or, or_false, false_or, not_true_eq_false, not_false_eq_true, i10, i01, ii01, ii02, ii03, ii04, ii05, ii12, ii13, ii14, ii15, ii20, ii21, ii23, ii24, ii25, ii30, ii31, ii32, ii34, ii35, ii40, ii41, ii42, ii43, ii45, ii50, ii51, ii52, ii53, ii54, bi_z, Option.some.injEq, reduceCtorEq, Nat.reduceLeDiff]
  | succ j ih =>
    intro k M M' c m hk hM1 hM2 hR hMF hB c6 m6 hent hpl
    obtain ⟨M, rfl⟩ : ∃ x, M = x + 1 := ⟨M - 1, by omega⟩
    obtain ⟨M', rfl⟩ : ∃ x, M' = x + 1 := ⟨M' - 1, by omega⟩
    have hM := hMF.1
    obtain ⟨r1, r2, r3, r4, r5, r6, r7, r8, r9, r10, r11, r12, r13, r14, r15, r16, r17, r18, r19⟩ := id hR
    have hkn : k < n := by omega
    have q1 : ¬ nI n ≤ nI k := nI_ge hkn (by omega)
    have vk := vp_nI (show k < 24 by omega) (show 24 < 2147483648 by decide)
    have nk := nI_cl (show k < 2147483648 by omega)
    have nxt : ∀ m2, frQ m m2 → mI m2 50 60 = mI m 50 60 → mI m2 91 = mI m 91 → mI m2 92 = mI m 92 → ∃ c' m', f_X5_setPlaces_b2 F z M (sI c (z + 3) k (nI (plN d f S last day ln k))) (nI (k + 1)) = some ((), c') ∧ f_X11_results_b314 F 50 M' (sI m2 92 k (nI (plN d f S last day ln k))) (nI f) (nI (k + 1)) = some ((), m') ∧ frZ z c c' ∧ frQ m m' ∧ mI c' z 6 = nI n ∧ mI m' 50 60 = nI n ∧ (∀ i, i < n → ent d f S N last day c' m' z i (ln i)) ∧ ∀ i, i < n → mI c' (z + 3) i = nI (plN d f S last day ln i) ∧ mI m' 92 i = nI (plN d f S last day ln i) := by
      intro m2 fr e60 e91 e92
      have fz : frZ z c (sI c (z + 3) k (nI (plN d f S last day ln k))) := frZ.sI (by omega) (by omega)
      have fq : frQ m (sI m2 92 k (nI (plN d f S last day ln k))) := fr.tr (frQ.sI (Or.inr (Or.inr (Or.inl rfl))))
      obtain ⟨c', m', w1, w2, w3, w4, w5, w6⟩ := ih (k + 1) M M' (sI c (z + 3) k (nI (plN d f S last day ln k))) (sI m2 92 k (nI (plN d f S last day ln k))) (by omega) (by omega) (by omega) hR (hMF.cg fq.frR) (hB.cg fq) (by rw [mI_sI_o (by omega)]; exact c6) (by rw [mI_sI_o (by decide), e60]; exact m6) (fun i hi => (hent i hi).cg (by rw [mI_sI_o (by omega)]) (by rw [mI_sI_o (by omega)]) rfl rfl (by rw [mI_sI_o (by decide), e91])) (fun i hi => by
        by_cases e : i = k
        · rw [e, mI_sI_e, mI_sI_e]; exact ⟨rfl, rfl⟩
        · rw [mI_sI_j e, mI_sI_j e, e92]; exact hpl i (by omega))
      exact ⟨c', m', w1, w2, fz.tr w3, fq.tr w4, w5, w6⟩
    cases k with
    | zero =>
      obtain ⟨c', m', w1, w2, w3⟩ := nxt m (frQ.rf m) rfl rfl rfl
      have g0 : nI 0 ≤ 0 := by decide
      have p1 : nI 0 + 1 = nI (plN d f S last day ln 0) := rfl
      have p2 : nI 0 + 1 = nI (0 + 1) := rfl
      rw [← p1, ← p2] at w1 w2
      refine ⟨c', m', ?_, ?_, w3⟩
      · show f_X5_setPlaces_b2_it F (f_X5_setPlaces_b2 F z M) z c (nI 0) = _
        simp only [f_X5_setPlaces_b2_it, f_X5_setPlaces_b52, f_X5_setPlaces_b53, f_X5_setPlaces_b77, r1, r4, r10, r16, c6, q1, g0, vk, nk, w1, nx_eq, ck_true, br_true, br_false, bd_eq, de_eq, mN_sI_, mK_sI_, mL_sI_, mI_sI_ap, mJ_sI_, mR_sI_, mN_sJ_, mK_sJ_, mL_sJ_, mI_sJ_, mJ_sJ_ap, mR_sJ_, mN_sR_, mK_sR_, mL_sR_, mI_sR_, mJ_sR_, mR_sR_ap, Nat.reduceEqDiff, Nat.reduceAdd, ↓reduceIte, and_true, true_and, and_false, false_and, or_true, true_or, or_false, false_or, not_true_eq_false, not_false_eq_true, i10, i01, ii01, ii02, ii03, ii04, ii05, ii12, ii13, ii14, ii15, ii20, ii21, ii23, ii24, ii25, ii30, ii31, ii32, ii34, ii35, ii40, ii41, ii42, ii43, ii45, ii50, ii51, ii52, ii53, ii54, bi_z, Option.some.injEq, reduceCtorEq, Nat.reduceLeDiff]
      · show f_X11_results_b314_it F (f_X11_results_b314 F 50 M') 50 m (nI f) (nI 0) = _
        simp only [f_X11_results_b314_it, f_X11_results_b370, f_X11_results_b374, hM, m6, q1, g0, vk, nk, w2, nx_eq, ck_true, br_true, br_false, bd_eq, de_eq, mN_sI_, mK_sI_, mL_sI_, mI_sI_ap, mJ_sI_, mR_sI_, mN_sJ_, mK_sJ_, mL_sJ_, mI_sJ_, mJ_sJ_ap, mR_sJ_, mN_sR_, mK_sR_, mL_sR_, mI_sR_, mJ_sR_, mR_sR_ap, Nat.reduceEqDiff, Nat.reduceAdd, ↓reduceIte, and_true, true_and, and_false, false_and, or_true, true_or, or_false, false_or, not_true_eq_false, not_false_eq_true, i10, i01, ii01, ii02, ii03, ii04, ii05, ii12, ii13, ii14, ii15, ii20, ii21, ii23, ii24, ii25, ii30, ii31, ii32, ii34, ii35, ii40, ii41, ii42, ii43, ii45, ii50, ii51, ii52, ii53, ii54, bi_z, Option.some.injEq, reduceCtorEq, Nat.reduceLeDiff]
    | succ k =>
      obtain ⟨a1, a2, a3, a4, a5, a6, a7, a8⟩ := hent k (by omega)
      obtain ⟨b1, b2, b3, b4, b5, b6, b7, b8⟩ := hent (k + 1) hkn
      obtain ⟨s1, s2⟩ := sk_C a3
      obtain ⟨s3, s4⟩ := sk_C b3
      obtain ⟨t1, t2⟩ := (hB _ a1).2 _ a2 a3
      obtain ⟨t3, t4⟩ := (hB _ b1).2 _ b2 b3
      have eF' : f_X10_compareFractions F c (lN (zV d f (ln k) (ks d f S last day (ln k)))) (lN (zY d f (ks d f S last day (ln k)))) (lN (zV d f (ln (k + 1)) (ks d f S last day (ln (k + 1))))) (lN (zY d f (ks d f S last day (ln (k + 1))))) = some (vB d f S last day (ln k) (ln (k + 1)), c) := e_cfB F hF c hD s1 s3 a1 b1 s2 s4 hl
      obtain ⟨m2, fr, eO⟩ := e_overB F hF hD hMF s1 s3 a1 b1 s2 s4 hl t1 t2 t3 t4
      have eO' : f_X11_over F m 50 (nI f) (nI (ln k)) (nI (ln (k + 1))) = some (vB d f S last day (ln k) (ln (k + 1)), m2) := eO
      have hM2' : shM m2 := fr.shM hM
      obtain ⟨c', m', w1, w2, w3⟩ := nxt m2 fr.frQ (by rw [fr.2.2.2.1]) (by rw [fr.2.2.2.1]) (by rw [fr.2.2.2.1])
      have g0 : ¬ nI (k + 1) ≤ 0 := nI_nle (by omega) (by omega)
      have vk0 := vp_nI (show k < 24 by omega) (show 24 < 2147483648 by decide)
      have nk0 := nI_cl (show k < 2147483648 by omega)
      obtain ⟨l1, l2⟩ := hpl k (by omega)
      have l2' : mI m2 92 k = nI (plN d f S last day ln k) := by rw [fr.2.2.2.1]; exact l2
      have R59 : mR m 50 59 = some 92 := by simp only [hM]
      have K92 : mK m2 92 = 22 := by simp only [hM2']
      have L92 : mL m2 92 = 24 := by simp only [hM2']
      have R592 : mR m2 50 59 = some 92 := by simp only [hM2']
      have K50 : mK m2 50 = 11 := by simp only [hM2']
      refine ⟨c', m', ?_, ?_, w3⟩
      · show f_X5_setPlaces_b2_it F (f_X5_setPlaces_b2 F z M) z c (nI (k + 1)) = _
        by_cases e : vB d f S last day (ln k) (ln (k + 1)) = 0
        · have ep : plN d f S last day ln (k + 1) = plN d f S last day ln k := if_pos e
          rw [ep] at w1
          simp only [f_X5_setPlaces_b2_it, f_X5_setPlaces_b53, f_X5_setPlaces_b77, r1, r4, r5, r6, r10, r11, r12, r16, r17, r18, c6, q1, g0, nI_pred, vk, nk, vk0, nk0, a6, a7, b6, b7, eF', e, l1, nI_1, w1, nx_eq, ck_true, br_true, br_false, bd_eq, de_eq, mN_sI_, mK_sI_, mL_sI_, mI_sI_ap, mJ_sI_, mR_sI_, mN_sJ_, mK_sJ_, mL_sJ_, mI_sJ_, mJ_sJ_ap, mR_sJ_, mN_sR_, mK_sR_, mL_sR_, mI_sR_, mJ_sR_, mR_sR_ap, Nat.reduceEqDiff, Nat.reduceAdd, ↓reduceIte, and_true, true_and, and_false, false_and, or_true, true_or, or_false, false_or, not_true_eq_false, not_false_eq_true, i10, i01, ii01, ii02, ii03, ii04, ii05, ii12, ii13, ii14, ii15, ii20, ii21, ii23, ii24, ii25, ii30, ii31, ii32, ii34, ii35, ii40, ii41, ii42, ii43, ii45, ii50, ii51, ii52, ii53, ii54, bi_z, Option.some.injEq, reduceCtorEq, Nat.reduceLeDiff]
        · have ep : plN d f S last day ln (k + 1) = k + 1 + 1 := if_neg e
          rw [ep] at w1
          simp only [f_X5_setPlaces_b2_it, f_X5_setPlaces_b52, f_X5_setPlaces_b53, f_X5_setPlaces_b77, r1, r4, r5, r6, r10, r11, r12, r16, r17, r18, c6, q1, g0, nI_pred, vk, nk, vk0, nk0, a6, a7, b6, b7, eF', e, nI_1, w1, nx_eq, ck_true, br_true, br_false, bd_eq, de_eq, mN_sI_, mK_sI_, mL_sI_, mI_sI_ap, mJ_sI_, mR_sI_, mN_sJ_, mK_sJ_, mL_sJ_, mI_sJ_, mJ_sJ_ap, mR_sJ_, mN_sR_, mK_sR_, mL_sR_, mI_sR_, mJ_sR_, mR_sR_ap, Nat.reduceEqDiff, Nat.reduceAdd, ↓reduceIte, and_true, true_and, and_false, false_and, or_true, true_or, or_false, false_or, not_true_eq_false, not_false_eq_true, i10, i01, ii01, ii02, ii03, ii04, ii05, ii12, ii13, ii14, ii15, ii20, ii21, ii23, ii24, ii25, ii30, ii31, ii32, ii34, ii35, ii40, ii41, ii42, ii43, ii45, ii50, ii51, ii52, ii53, ii54, bi_z, Option.some.injEq, reduceCtorEq, Nat.reduceLeDiff]
      · show f_X11_results_b314_it F (f_X11_results_b314 F 50 M') 50 m (nI f) (nI (k + 1)) = _
        by_cases e : vB d f S last day (ln k) (ln (k + 1)) = 0
        · have ep : plN d f S last day ln (k + 1) = plN d f S last day ln k := if_pos e
          rw [ep] at w2
          simp only [f_X11_results_b314_it, f_X11_results_b374, hM, m6, q1, g0, nI_pred, vk, nk, vk0, nk0, a8, b8, eO', e, K50, R592, K92, L92, l2', nI_1, w2, nx_eq, ck_true, br_true, br_false, bd_eq, de_eq, mN_sI_, mK_sI_, mL_sI_, mI_sI_ap, mJ_sI_, mR_sI_, mN_sJ_, mK_sJ_, mL_sJ_, mI_sJ_, mJ_sJ_ap, mR_sJ_, mN_sR_, mK_sR_, mL_sR_, mI_sR_, mJ_sR_, mR_sR_ap, Nat.reduceEqDiff, Nat.reduceAdd, ↓reduceIte, and_true, true_and, and_false, false_and, or_true, true_or, or_false, false_or, not_true_eq_false, not_false_eq_true, i10, i01, ii01, ii02, ii03, ii04, ii05, ii12, ii13, ii14, ii15, ii20, ii21, ii23, ii24, ii25, ii30, ii31, ii32, ii34, ii35, ii40, ii41, ii42, ii43, ii45, ii50, ii51, ii52, ii53, ii54, bi_z, Option.some.injEq, reduceCtorEq, Nat.reduceLeDiff]
        · have ep : plN d f S last day ln (k + 1) = k + 1 + 1 := if_neg e
          rw [ep] at w2
          simp only [f_X11_results_b314_it, f_X11_results_b370, f_X11_results_b374, hM, m6, q1, g0, nI_pred, vk, nk, vk0, nk0, a8, b8, eO', e, K92, L92, nI_1, w2, nx_eq, ck_true, br_true, br_false, bd_eq, de_eq, mN_sI_, mK_sI_, mL_sI_, mI_sI_ap, mJ_sI_, mR_sI_, mN_sJ_, mK_sJ_, mL_sJ_, mI_sJ_, mJ_sJ_ap, mR_sJ_, mN_sR_, mK_sR_, mL_sR_, mI_sR_, mJ_sR_, mR_sR_ap, Nat.reduceEqDiff, Nat.reduceAdd, ↓reduceIte, and_true, true_and, and_false, false_and, or_true, true_or, or_false, false_or, not_true_eq_false, not_false_eq_true, i10, i01, ii01, ii02, ii03, ii04, ii05, ii12, ii13, ii14, ii15, ii20, ii21, ii23, ii24, ii25, ii30, ii31, ii32, ii34, ii35, ii40, ii41, ii42, ii43, ii45, ii50, ii51, ii52, ii53, ii54, bi_z, Option.some.injEq, reduceCtorEq, Nat.reduceLeDiff]
