/-! the insertion, step by step on both sides -/
theorem ent.cg {d : Mem} {f S N last day : Nat} {c m c' m' : Mem} {z i i' b : Nat} (h : ent d f S N last day c m z i b) (h1 : mI c' (z + 1) i' = mI c (z + 1) i) (h2 : mI c' (z + 2) i' = mI c (z + 2) i) (h4 : mJ c' (z + 4) i' = mJ c (z + 4) i) (h5 : mJ c' (z + 5) i' = mJ c (z + 5) i) (hm : mI m' 91 i' = mI m 91 i) : ent d f S N last day c' m' z i' b := by
  obtain ⟨a1, a2, a3, a4, a5, a6, a7, a8⟩ := h
  exact ⟨a1, a2, a3, h1.trans a4, h2.trans a5, h4.trans a6, h5.trans a7, hm.trans a8⟩
theorem ins_end (F : Nat) {d : Mem} {f S N last day : Nat} {z : Nat} (hz : z = 33 ∨ z = 40) {b : Nat} (hb : b < N) (hN : N ≤ 24) (hw : 0 < zW d f b) (hsb : sk d f S last day b = some (ks d f S last day b)) {ln : Nat → Nat} {n : Nat} (hn : n < 24) (K15 : Mem → Int32 → Int32 → Int32 → Int32 → Option (Unit × Mem)) (p1 p2 p3 : Int32) {p : Nat} {c m : Mem} (hp : p ≤ n) (hR : shR c z) (hM : shM m) (h1 : ∀ i, i < p → ent d f S N last day c m z i (ln i)) (h2 : ∀ i, p < i → i ≤ n → ent d f S N last day c m z i (ln (i - 1))) :
    ∃ c' m', f_X5_insert_b74 F z c (nI b) (nI (ks d f S last day b)) (lN (zV d f b (ks d f S last day b))) (lN (zY d f (ks d f S last day b))) (nI p) = some ((), c') ∧ f_X11_results_b155 F K15 50 m p1 p2 p3 (nI b) (nI p) = K15 m' p1 p2 p3 (nI (b + 1)) ∧ frZ z c c' ∧ frQ m m' ∧ (∀ y, mI c' z y = mI c z y) ∧ mI m' 50 60 = mI m 50 60 + 1 ∧ ∀ i, i ≤ n → ent d f S N last day c' m' z i (insA ln p b i) := by
  obtain ⟨r1, r2, r3, r4, r5, r6, r7, r8, r9, r10, r11, r12, r13, r14, r15, r16, r17, r18, r19⟩ := hR
  have vp := vp_nI (show p < 24 by omega) (show 24 < 2147483648 by decide)
  have np := nI_cl (show p < 2147483648 by omega)
  generalize hk : ks d f S last day b = k at *
  have E1 : ∀ x y, x ≠ p → mI (sJ (sJ (sI (sI c (z + 1) p (nI b)) (z + 2) p (nI k)) (z + 4) p (lN (zV d f b k))) (z + 5) p (lN (zY d f k))) y x = mI c y x := by
    intro x y hx
    show mI (sI (sI c (z + 1) p (nI b)) (z + 2) p (nI k)) y x = _
    rw [mI_sI_j hx, mI_sI_j hx]
  have E2 : ∀ x y, x ≠ p → mJ (sJ (sJ (sI (sI c (z + 1) p (nI b)) (z + 2) p (nI k)) (z + 4) p (lN (zV d f b k))) (z + 5) p (lN (zY d f k))) y x = mJ c y x := by
    intro x y hx
    rw [mJ_sJ_j hx, mJ_sJ_j hx]
    rfl
  have E3 : ∀ x, x ≠ p → mI (sI (sI m 91 p (nI b)) 50 60 (mI m 50 60 + 1)) 91 x = mI m 91 x := by
    intro x hx
    rw [mI_sI_o (by decide), mI_sI_j hx]
  refine ⟨sJ (sJ (sI (sI c (z + 1) p (nI b)) (z + 2) p (nI k)) (z + 4) p (lN (zV d f b k))) (z + 5) p (lN (zY d f k)), sI (sI m 91 p (nI b)) 50 60 (mI m 50 60 + 1), ?_, ?_, ?_, ?_, fun y => ?_, mI_sI_e, fun i hi => ?_⟩
  · simp only [f_X5_insert_b74, r1, r2, r3, r5, r6, r8, r9, r11, r12, r14, r15, r17, r18, vp, np, nx_eq, ck_true, br_true, br_false, bd_eq, de_eq, mN_sI_, mK_sI_, mL_sI_, mI_sI_ap, mJ_sI_, mR_sI_, mN_sJ_, mK_sJ_, mL_sJ_, mI_sJ_, mJ_sJ_ap, mR_sJ_, mN_sR_, mK_sR_, mL_sR_, mI_sR_, mJ_sR_, mR_sR_ap, Nat.reduceEqDiff, Nat.reduceAdd, ↓reduceIte, and_true, true_and, and_false, false_and, or_true, true_or, or_false, false_or, not_true_eq_false, not_false_eq_true, i10, i01, ii01, ii02, ii03, ii04, ii05, ii12, ii13, ii14, ii15, ii20, ii21, ii23, ii24, ii25, ii30, ii31, ii32, ii34, ii35, ii40, ii41, ii42, ii43, ii45, ii50, ii51, ii52, ii53, ii54, bi_z, Option.some.injEq, reduceCtorEq, Nat.reduceLeDiff]
  · have a1 : ¬ (50 : Nat) = 91 := by decide
    simp only [f_X11_results_b155, f_X11_results_b174, hM, vp, np, a1, nI_1, nx_eq, ck_true, br_true, br_false, bd_eq, de_eq, mN_sI_, mK_sI_, mL_sI_, mI_sI_ap, mJ_sI_, mR_sI_, mN_sJ_, mK_sJ_, mL_sJ_, mI_sJ_, mJ_sJ_ap, mR_sJ_, mN_sR_, mK_sR_, mL_sR_, mI_sR_, mJ_sR_, mR_sR_ap, Nat.reduceEqDiff, Nat.reduceAdd, ↓reduceIte, and_true, true_and, and_false, false_and, or_true, true_or, or_false, false_or, not_true_eq_false, not_false_eq_true, i10, i01, ii01, ii02, ii03, ii04, ii05, ii12, ii13, ii14, ii15, ii20, ii21, ii23, ii24, ii25, ii30, ii31, ii32, ii34, ii35, ii40, ii41, ii42, ii43, ii45, ii50, ii51, ii52, ii53, ii54, bi_z, Option.some.injEq, reduceCtorEq, Nat.reduceLeDiff]
  · exact (((frZ.sI (by omega) (by omega)).tr (frZ.sI (by omega) (by omega))).tr (frZ.sJ (by omega) (by omega))).tr (frZ.sJ (by omega) (by omega))
  · exact (frQ.sI (Or.inr (Or.inl rfl))).tr (frQ.sI (Or.inr (Or.inr (Or.inr ⟨rfl, rfl⟩))))
  · show mI (sI (sI c (z + 1) p (nI b)) (z + 2) p (nI k)) z y = _
    rw [mI_sI_o (by omega), mI_sI_o (by omega)]
  · unfold insA
    by_cases e1 : i < p
    · rw [if_pos e1]
      exact (h1 i e1).cg (E1 i _ (by omega)) (E1 i _ (by omega)) (E2 i _ (by omega)) (E2 i _ (by omega)) (E3 i (by omega))
    · rw [if_neg e1]
      by_cases e2 : i = p
      · rw [if_pos e2, e2]
        refine ⟨hb, hw, by rw [hk]; exact hsb, ?_, ?_, ?_, ?_, ?_⟩
        · show mI (sI (sI c (z + 1) p (nI b)) (z + 2) p (nI k)) (z + 1) p = _
          rw [mI_sI_o (by omega), mI_sI_e]
        · show mI (sI (sI c (z + 1) p (nI b)) (z + 2) p (nI k)) (z + 2) p = _
          rw [mI_sI_e, hk]
        · rw [mJ_sJ_o (by omega), mJ_sJ_e, hk]
        · rw [mJ_sJ_e, hk]
        · rw [mI_sI_o (by decide), mI_sI_e]
      · rw [if_neg e2]
        exact (h2 i (by omega) hi).cg (E1 i _ (by omega)) (E1 i _ (by omega)) (E2 i _ (by omega)) (E2 i _ (by omega)) (E3 i (by omega))
theorem lp_ins (F : Nat) (hF : 101 ≤ F) {d : Mem} {f S L N last day : Nat} (hD : DF d f S L N) (hl : last ≤ 40000) {z : Nat} (hz : z = 33 ∨ z = 40) {b : Nat} (hb : b < N) (hw : 0 < zW d f b) (hsb : sk d f S last day b = some (ks d f S last day b)) {ln : Nat → Nat} {n : Nat} (hn : n < 24) (K15 : Mem → Int32 → Int32 → Int32 → Int32 → Option (Unit × Mem)) (p2 p3 : Int32) :
    ∀ p M c m, p ≤ n → p < M → shR c z → MF d m f S N → BST d m f S N last day → (∀ i, i < p → ent d f S N last day c m z i (ln i)) → (∀ i, p < i → i ≤ n → ent d f S N last day c m z i (ln (i - 1))) →
      ∃ c' m' p', p' ≤ p ∧ f_X5_insert_b26 F z M c (nI b) (nI (ks d f S last day b)) (lN (zV d f b (ks d f S last day b))) (lN (zY d f (ks d f S last day b))) (nI p) = some ((), c') ∧ f_X11_results_b109 F K15 50 M m (nI f) p2 p3 (nI b) (nI p) = K15 m' (nI f) p2 p3 (nI (b + 1)) ∧ frZ z c c' ∧ frQ m m' ∧ (∀ y, mI c' z y = mI c z y) ∧ mI m' 50 60 = mI m 50 60 + 1 ∧ (∀ i, i ≤ n → ent d f S N last day c' m' z i (insA ln p' b i)) ∧ (p' = 0 ∨ 0 ≤ vB d f S last day (ln (p' - 1)) b) ∧ ∀ i, p' ≤ i → i < p → ¬ 0 ≤ vB d f S last day (ln i) b := by
  have hN := hD.2.2.2.1
  intro p
  induction p with
  | zero =>
    intro M c m hp hM2 hR hMF hBST h1 h2
    obtain ⟨M, rfl⟩ : ∃ M', M = M' + 1 := ⟨M - 1, by omega⟩
    obtain ⟨c', m', e1, e2, e3, e4, e5, e6, e7⟩ := ins_end F hz hb hN hw hsb hn K15 (nI f) p2 p3 hp hR hMF.1 h1 h2
    refine ⟨c', m', 0, Nat.le_refl _, ?_, ?_, e3, e4, e5, e6, e7, Or.inl rfl, fun i h1 h2 => absurd h2 (by omega)⟩
    · show f_X5_insert_b26_it F (f_X5_insert_b26 F z M) z c _ _ _ _ (nI 0) = _
      unfold f_X5_insert_b26_it
      rw [br_t1 (show nI 0 ≤ 0 by decide)]
      exact e1
    · show f_X11_results_b109_it F (f_X11_results_b109 F K15 50 M) K15 50 m (nI f) p2 p3 (nI b) (nI 0) = _
      unfold f_X11_results_b109_it
      rw [br_t1 (show nI 0 ≤ 0 by decide)]
      exact e2
  | succ p ih =>
    intro M c m hp hM2 hR hMF hBST h1 h2
    obtain ⟨M, rfl⟩ : ∃ M', M = M' + 1 := ⟨M - 1, by omega⟩
    obtain ⟨r1, r2, r3, r4, r5, r6, r7, r8, r9, r10, r11, r12, r13, r14, r15, r16, r17, r18, r19⟩ := id hR
    have hM := hMF.1
    obtain ⟨a1, a2, a3, a4, a5, a6, a7, a8⟩ := h1 p (by omega)
    have g0 : ¬ nI (p + 1) ≤ 0 := nI_nle (by omega) (by omega)
    have vp := vp_nI (show p < 24 by omega) (show 24 < 2147483648 by decide)
    have np := nI_cl (show p < 2147483648 by omega)
    have vp1 := vp_nI (show p + 1 < 24 by omega) (show 24 < 2147483648 by decide)
    have np1 := nI_cl (show p + 1 < 2147483648 by omega)
    obtain ⟨s1, s2⟩ := sk_C a3
    obtain ⟨s3, s4⟩ := sk_C hsb
    have eF := e_cfB F hF c hD s1 s3 a1 hb s2 s4 hl
    obtain ⟨t1, t2⟩ := (hBST b hb).2 _ hw hsb
    obtain ⟨t3, t4⟩ := (hBST (ln p) a1).2 _ a2 a3
    obtain ⟨m2, fr, eO⟩ := e_overB F hF hD hMF s3 s1 hb a1 s4 s2 hl t1 t2 t3 t4
    have eO' : f_X11_over F m 50 (nI f) (nI b) (nI (ln p)) = some (vB d f S last day b (ln p), m2) := eO
    have eF' : f_X10_compareFractions F c (lN (zV d f (ln p) (ks d f S last day (ln p)))) (lN (zY d f (ks d f S last day (ln p)))) (lN (zV d f b (ks d f S last day b))) (lN (zY d f (ks d f S last day b))) = some (vB d f S last day (ln p) b, c) := eF
    have fq := fr.frQ
    have hM2' : shM m2 := fr.shM hM
    by_cases q : 0 ≤ vB d f S last day (ln p) b
    · have h1' : ∀ i, i < p + 1 → ent d f S N last day c m2 z i (ln i) := fun i hi => (h1 i hi).cg rfl rfl rfl rfl (by rw [fr.2.2.2.1])
      have h2' : ∀ i, p + 1 < i → i ≤ n → ent d f S N last day c m2 z i (ln (i - 1)) := fun i hi hi2 => (h2 i hi hi2).cg rfl rfl rfl rfl (by rw [fr.2.2.2.1])
      obtain ⟨c', m', e1, e2, e3, e4, e5, e6, e7⟩ := ins_end F hz hb hN hw hsb hn K15 (nI f) p2 p3 hp hR hM2' h1' h2'
      refine ⟨c', m', p + 1, Nat.le_refl _, ?_, ?_, e3, fq.tr e4, e5, by rw [e6, fr.2.2.2.1], e7, Or.inr q, fun i h1 h2 => absurd h2 (by omega)⟩
      · show f_X5_insert_b26_it F (f_X5_insert_b26 F z M) z c _ _ _ _ (nI (p + 1)) = _
        simp only [f_X5_insert_b26_it, g0, r1, r5, r6, r11, r12, r17, r18, nI_pred, vp, np, a6, a7, eF', q, e1, nx_eq, ck_true, br_true, br_false, bd_eq, de_eq, mN_sI_, mK_sI_, mL_sI_, mI_sI_ap, mJ_sI_, mR_sI_, mN_sJ_, mK_sJ_, mL_sJ_, mI_sJ_, mJ_sJ_ap, mR_sJ_, mN_sR_, mK_sR_, mL_sR_, mI_sR_, mJ_sR_, mR_sR_ap, Nat.reduceEqDiff, Nat.reduceAdd, ↓reduceIte, and_true, true_and, and_false, false_and, or_true, true_or, or_false, false_or, not_true_eq_false, not_false_eq_true, i10, i01, ii01, ii02, ii03, ii04, ii05, ii12, ii13, ii14, ii15, ii20, ii21, ii23, ii24, ii25, ii30, ii31, ii32, ii34, ii35, ii40, ii41, ii42, ii43, ii45, ii50, ii51, ii52, ii53, ii54, bi_z, Option.some.injEq, reduceCtorEq, Nat.reduceLeDiff]
      · show f_X11_results_b109_it F (f_X11_results_b109 F K15 50 M) K15 50 m (nI f) p2 p3 (nI b) (nI (p + 1)) = _
        simp only [f_X11_results_b109_it, g0, hM, nI_pred, vp, np, a8, eO', vB_sw, q, e2, nx_eq, ck_true, br_true, br_false, bd_eq, de_eq, mN_sI_, mK_sI_, mL_sI_, mI_sI_ap, mJ_sI_, mR_sI_, mN_sJ_, mK_sJ_, mL_sJ_, mI_sJ_, mJ_sJ_ap, mR_sJ_, mN_sR_, mK_sR_, mL_sR_, mI_sR_, mJ_sR_, mR_sR_ap, Nat.reduceEqDiff, Nat.reduceAdd, ↓reduceIte, and_true, true_and, and_false, false_and, or_true, true_or, or_false, false_or, not_true_eq_false, not_false_eq_true, i10, i01, ii01, ii02, ii03, ii04, ii05, ii12, ii13, ii14, ii15, ii20, ii21, ii23, ii24, ii25, ii30, ii31, ii32, ii34, ii35, ii40, ii41, ii42, ii43, ii45, ii50, ii51, ii52, ii53, ii54, bi_z, Option.some.injEq, reduceCtorEq, Nat.reduceLeDiff]
    · obtain ⟨c2, v1, v2, v3, v4, v5, v6, v7, v8, v9⟩ := e_move F hR (show p < 24 by omega) (show p + 1 < 24 by omega)
      have hR2 : shR c2 z := by
        unfold shR
        rw [v2.1, v2.2.1, v2.2.2.1]
        exact hR
      have l91 : mI m2 91 p = nI (ln p) := by rw [fr.2.2.2.1]; exact a8
      have fq2 : frQ m (sI m2 91 (p + 1) (nI (ln p))) := fq.tr (frQ.sI (Or.inr (Or.inl rfl)))
      obtain ⟨c', m', p', w0, w1, w2, w3, w4, w5, w6, w7, w8, w9⟩ := ih M c2 (sI m2 91 (p + 1) (nI (ln p))) (by omega) (by omega) hR2 (hMF.cg fq2.frR) (hBST.cg fq2) (fun i hi => (h1 i (by omega)).cg (by rw [v5, if_neg (by omega)]) (by rw [v6, if_neg (by omega)]) (by rw [v8, if_neg (by omega)]) (by rw [v9, if_neg (by omega)]) (by rw [mI_sI_j (by omega), fr.2.2.2.1])) (fun i hi hi2 => by
        by_cases e : i = p + 1
        · rw [e]
          refine (h1 p (by omega)).cg (by rw [v5, if_pos rfl]) (by rw [v6, if_pos rfl]) (by rw [v8, if_pos rfl]) (by rw [v9, if_pos rfl]) (by rw [mI_sI_e, a8])
        · exact (h2 i (by omega) hi2).cg (by rw [v5, if_neg e]) (by rw [v6, if_neg e]) (by rw [v8, if_neg e]) (by rw [v9, if_neg e]) (by rw [mI_sI_j e, fr.2.2.2.1]))
      refine ⟨c', m', p', by omega, ?_, ?_, v2.tr w3, fq2.tr w4, fun y => by rw [w5, v3], ?_, w7, w8, fun i i1 i2 => ?_⟩
      · show f_X5_insert_b26_it F (f_X5_insert_b26 F z M) z c _ _ _ _ (nI (p + 1)) = _
        simp only [f_X5_insert_b26_it, g0, r1, r5, r6, r11, r12, r17, r18, nI_pred, vp, np, a6, a7, eF', q, v1, pk_m1, w1, nx_eq, ck_true, br_true, br_false, bd_eq, de_eq, mN_sI_, mK_sI_, mL_sI_, mI_sI_ap, mJ_sI_, mR_sI_, mN_sJ_, mK_sJ_, mL_sJ_, mI_sJ_, mJ_sJ_ap, mR_sJ_, mN_sR_, mK_sR_, mL_sR_, mI_sR_, mJ_sR_, mR_sR_ap, Nat.reduceEqDiff, Nat.reduceAdd, ↓reduceIte, and_true, true_and, and_false, false_and, or_true, true_or, or_false, false_or, not_true_eq_false, not_false_eq_true, i10, i01, ii01, ii02, ii03, ii04, ii05, ii12, ii13, ii14, ii15, ii20, ii21, ii23, ii24, ii25, ii30, ii31, ii32, ii34, ii35, ii40, ii41, ii42, ii43, ii45, ii50, ii51, ii52, ii53, ii54, bi_z, Option.some.injEq, reduceCtorEq, Nat.reduceLeDiff]
      · show f_X11_results_b109_it F (f_X11_results_b109 F K15 50 M) K15 50 m (nI f) p2 p3 (nI b) (nI (p + 1)) = _
        simp only [f_X11_results_b109_it, g0, hM, hM2', nI_pred, vp, np, vp1, np1, a8, l91, eO', vB_sw, q, pk_m1, w2, nx_eq, ck_true, br_true, br_false, bd_eq, de_eq, mN_sI_, mK_sI_, mL_sI_, mI_sI_ap, mJ_sI_, mR_sI_, mN_sJ_, mK_sJ_, mL_sJ_, mI_sJ_, mJ_sJ_ap, mR_sJ_, mN_sR_, mK_sR_, mL_sR_, mI_sR_, mJ_sR_, mR_sR_ap, Nat.reduceEqDiff, Nat.reduceAdd, ↓reduceIte, and_true, true_and, and_false, false_and, or_true, true_or, or_false, false_or, not_true_eq_false, not_false_eq_true, i10, i01, ii01, ii02, ii03, ii04, ii05, ii12, ii13, ii14, ii15, ii20, ii21, ii23, ii24, ii25, ii30, ii31, ii32, ii34, ii35, ii40, ii41, ii42, ii43, ii45, ii50, ii51, ii52, ii53, ii54, bi_z, Option.some.injEq, reduceCtorEq, Nat.reduceLeDiff]
      · rw [w6, mI_sI_o (by decide), fr.2.2.2.1]
      · by_cases e : i = p
        · rw [e]; exact q
        · exact w9 i i1 (by omega)
