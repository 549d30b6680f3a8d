/-! who has staked, and what the stakes come to -/
def kp (st ln : Nat → Nat) : Nat → Nat × (Nat → Nat)
  | 0 => (0, fun _ => 0)
  | k + 1 => if 0 < st (ln k) then ((kp st ln k).1 + 1, va_up (kp st ln k).2 (kp st ln k).1 k) else kp st ln k
theorem kp_y {st ln : Nat → Nat} {k : Nat} (h : 0 < st (ln k)) : kp st ln (k + 1) = ((kp st ln k).1 + 1, va_up (kp st ln k).2 (kp st ln k).1 k) := if_pos h
theorem kp_n {st ln : Nat → Nat} {k : Nat} (h : ¬ 0 < st (ln k)) : kp st ln (k + 1) = kp st ln k := if_neg h
theorem kp_p (st ln : Nat → Nat) : ∀ k, (kp st ln k).1 ≤ k ∧ (∀ i, i < (kp st ln k).1 → (kp st ln k).2 i < k) ∧ ∀ i j, i < j → j < (kp st ln k).1 → (kp st ln k).2 i < (kp st ln k).2 j := by
  intro k
  induction k with
  | zero => exact ⟨Nat.le_refl _, fun i hi => absurd hi (by show ¬ i < 0; omega), fun i j _ hj => absurd hj (by show ¬ j < 0; omega)⟩
  | succ k ih =>
    obtain ⟨h1, h2, h3⟩ := ih
    by_cases e : 0 < st (ln k)
    · rw [kp_y e]
      refine ⟨by show (kp st ln k).1 + 1 ≤ k + 1; omega, fun i hi => ?_, fun i j hij hj => ?_⟩
      · have hi' : i < (kp st ln k).1 + 1 := hi
        show va_up (kp st ln k).2 (kp st ln k).1 k i < k + 1
        by_cases q : i = (kp st ln k).1
        · rw [q, va_up_self]; omega
        · rw [va_up_ne _ _ q]; have := h2 i (by omega); omega
      · have hj' : j < (kp st ln k).1 + 1 := hj
        show va_up (kp st ln k).2 (kp st ln k).1 k i < va_up (kp st ln k).2 (kp st ln k).1 k j
        rw [va_up_ne _ _ (show i ≠ (kp st ln k).1 by omega)]
        by_cases q : j = (kp st ln k).1
        · rw [q, va_up_self]; exact h2 i (by omega)
        · rw [va_up_ne _ _ q]; exact h3 i j hij (by omega)
    · rw [kp_n e]
      exact ⟨by omega, fun i hi => by have := h2 i hi; omega, h3⟩
theorem lp_keep (F : Nat) {n w : Nat} {st A P : Nat → Nat} (hn : n ≤ 24) (hw : 97 ≤ w) (hst : ∀ b, b < 24 → st b ≤ 10000) (hA : ∀ i, i < n → A i < 24) :
    ∀ j k M c, k + j = n → j < M → shR c 40 → mK c w = 22 → mL c w = 24 → (∀ b, b < 24 → mI c w b = nI (st b)) → mI c 40 6 = nI n → (∀ i, i < (kp st A k).1 → mI c 41 i = nI (A ((kp st A k).2 i)) ∧ mI c 43 i = nI (P ((kp st A k).2 i))) → (∀ i, k ≤ i → i < n → mI c 41 i = nI (A i) ∧ mI c 43 i = nI (P i)) →
      ∃ c', f_X5_keepStaked_b4 F 40 M c (some w) (nI (kp st A k).1) (nI k) = some ((), c') ∧ frZ 40 c c' ∧ mI c' 40 6 = nI (kp st A n).1 ∧ ∀ i, i < (kp st A n).1 → mI c' 41 i = nI (A ((kp st A n).2 i)) ∧ mI c' 43 i = nI (P ((kp st A n).2 i)) := by
  intro j
  induction j with
  | zero =>
    intro k M c hk hM hR hkw hlw hs c6 h1 h2
    obtain ⟨M, rfl⟩ : ∃ x, M = x + 1 := ⟨M - 1, by omega⟩
    obtain rfl : k = n := by omega
    have kz := hR.1
    have q1 : nI k ≤ nI k := nI_le (Nat.le_refl _) (by omega)
    refine ⟨sI c 40 6 (nI (kp st A k).1), ?_, frZ.sI (by decide) (by decide), mI_sI_e, fun i hi => ?_⟩
    · show f_X5_keepStaked_b4_it F (f_X5_keepStaked_b4 F 40 M) 40 c (some w) (nI (kp st A k).1) (nI k) = _
      simp only [f_X5_keepStaked_b4_it, kz, c6, q1, nx_eq, ck_true, br_true, br_false, bd_eq, de_eq, mN_sI_, mK_sI_, mL_sI_, mI_sI_ap, mJ_sI_, mR_sI_, mN_sJ_, mK_sJ_, mL_sJ_, mI_sJ_, mJ_sJ_ap, mR_sJ_, mN_sR_, mK_sR_, mL_sR_, mI_sR_, mJ_sR_, mR_sR_ap, Nat.reduceEqDiff, Nat.reduceAdd, ↓reduceIte, and_true, true_and, and_false, false_and, or_true, true_or, or_false, false_or, not_true_eq_false, not_false_eq_true, i10, i01, ii01, ii02, ii03, ii04, ii05, ii12, ii13, ii14, ii15, ii20, ii21, ii23, ii24, ii25, ii30, ii31, ii32, ii34, ii35, ii40, ii41, ii42, ii43, ii45, ii50, ii51, ii52, ii53, ii54, bi_z, Option.some.injEq, reduceCtorEq, Nat.reduceLeDiff]
    · rw [mI_sI_o (by decide), mI_sI_o (by decide)]; exact h1 i hi
  | succ j ih =>
    intro k M c hk hM hR hkw hlw hs c6 h1 h2
    obtain ⟨M, rfl⟩ : ∃ x, M = x + 1 := ⟨M - 1, by omega⟩
    have hkn : k < n := by omega
    obtain ⟨r1, r2, r3, r4, r5, r6, r7, r8, r9, r10, r11, r12, r13, r14, r15, r16, r17, r18, r19⟩ := id hR
    simp only [Nat.reduceAdd] at r2 r3 r4 r5 r6 r7 r8 r9 r10 r11 r12 r13 r14 r15 r16 r17 r18 r19
    obtain ⟨a1, a2⟩ := h2 k (Nat.le_refl _) hkn
    obtain ⟨p1, p2, p3⟩ := kp_p st A k
    have hb := hA k hkn
    have hsb := hst _ hb
    have q1 : ¬ nI n ≤ nI k := nI_ge hkn (by omega)
    have vk := vp_nI (show k < 24 by omega) (show 24 < 2147483648 by decide)
    have nk := nI_cl (show k < 2147483648 by omega)
    have vb := vp_nI hb (show 24 < 2147483648 by decide)
    have nb := nI_cl (show A k < 2147483648 by omega)
    have g1 : ¬ nI (A k) < 0 := nI_pos (by omega)
    have g2 : ¬ nI 24 ≤ nI (A k) := nI_ge hb (by decide)
    have k21 : (21 : Nat) ≤ 22 := by decide
    have k27 : (22 : Nat) ≤ 27 := by decide
    have hs1 := hs _ hb
    by_cases e : 0 < st (A k)
    · have g3 : ¬ nI (st (A k)) ≤ 0 := nI_nle e (by omega)
      obtain ⟨c2, v1, v2, v3, v4, v5, v6, v7, v8, v9⟩ := e_move F hR (show k < 24 by omega) (show (kp st A k).1 < 24 by omega)
      simp only [Nat.reduceAdd] at v4 v5 v6 v7 v8 v9
      have hR2 : shR c2 40 := by
        unfold shR
        rw [v2.1, v2.2.1, v2.2.2.1]
        exact hR
      obtain ⟨c', w1, w2, w3, w4⟩ := ih (k + 1) M c2 (by omega) (by omega) hR2 (by rw [v2.1]; exact hkw) (by rw [v2.2.1]; exact hlw) (fun b hb => by rw [v2.2.2.2.2.1 w (by omega)]; exact hs b hb) (by rw [v3]; exact c6) (fun i hi => by
          rw [kp_y e] at hi ⊢
          show mI c2 41 i = nI (A (va_up (kp st A k).2 (kp st A k).1 k i)) ∧ mI c2 43 i = nI (P (va_up (kp st A k).2 (kp st A k).1 k i))
          have hi' : i < (kp st A k).1 + 1 := hi
          rw [v5, v7]
          by_cases q : i = (kp st A k).1
          · rw [q, va_up_self, if_pos rfl, if_pos rfl]; exact ⟨a1, a2⟩
          · rw [va_up_ne _ _ q, if_neg q, if_neg q]; exact h1 i (by omega)) (fun i i1 i2 => by
          rw [v5, v7, if_neg (by omega), if_neg (by omega)]; exact h2 i (by omega) i2)
      refine ⟨c', ?_, v2.tr w2, w3, w4⟩
      rw [kp_y e] at w1
      have w1' : f_X5_keepStaked_b4 F 40 M c2 (some w) (nI ((kp st A k).1 + 1)) (nI (k + 1)) = some ((), c') := w1
      show f_X5_keepStaked_b4_it F (f_X5_keepStaked_b4 F 40 M) 40 c (some w) (nI (kp st A k).1) (nI k) = _
      simp only [f_X5_keepStaked_b4_it, f_X5_keepStaked_b48, r1, r2, r8, r14, c6, q1, vk, nk, a1, g1, hkw, hlw, k21, k27, g2, vb, nb, hs1, g3, v1, nI_1, w1', nx_eq, ck_true, br_true, br_false, bd_eq, de_eq, mN_sI_, mK_sI_, mL_sI_, mI_sI_ap, mJ_sI_, mR_sI_, mN_sJ_, mK_sJ_, mL_sJ_, mI_sJ_, mJ_sJ_ap, mR_sJ_, mN_sR_, mK_sR_, mL_sR_, mI_sR_, mJ_sR_, mR_sR_ap, Nat.reduceEqDiff, Nat.reduceAdd, ↓reduceIte, and_true, true_and, and_false, false_and, or_true, true_or, or_false, false_or, not_true_eq_false, not_false_eq_true, i10, i01, ii01, ii02, ii03, ii04, ii05, ii12, ii13, ii14, ii15, ii20, ii21, ii23, ii24, ii25, ii30, ii31, ii32, ii34, ii35, ii40, ii41, ii42, ii43, ii45, ii50, ii51, ii52, ii53, ii54, bi_z, Option.some.injEq, reduceCtorEq, Nat.reduceLeDiff]
    · have g3 : nI (st (A k)) ≤ 0 := nI_le (a := st (A k)) (b := 0) (by omega) (by decide)
      obtain ⟨c', w1, w2, w3, w4⟩ := ih (k + 1) M c (by omega) (by omega) hR hkw hlw hs c6 (fun i hi => by
          rw [kp_n e] at hi ⊢
          exact h1 i hi) (fun i i1 i2 => h2 i (by omega) i2)
      refine ⟨c', ?_, w2, w3, w4⟩
      rw [kp_n e] at w1
      show f_X5_keepStaked_b4_it F (f_X5_keepStaked_b4 F 40 M) 40 c (some w) (nI (kp st A k).1) (nI k) = _
      simp only [f_X5_keepStaked_b4_it, f_X5_keepStaked_b48, r1, r2, r8, r14, c6, q1, vk, nk, a1, g1, hkw, hlw, k21, k27, g2, vb, nb, hs1, g3, nI_1, w1, nx_eq, ck_true, br_true, br_false, bd_eq, de_eq, mN_sI_, mK_sI_, mL_sI_, mI_sI_ap, mJ_sI_, mR_sI_, mN_sJ_, mK_sJ_, mL_sJ_, mI_sJ_, mJ_sJ_ap, mR_sJ_, mN_sR_, mK_sR_, mL_sR_, mI_sR_, mJ_sR_, mR_sR_ap, Nat.reduceEqDiff, Nat.reduceAdd, ↓reduceIte, and_true, true_and, and_false, false_and, or_true, true_or, or_false, false_or, not_true_eq_false, not_false_eq_true, i10, i01, ii01, ii02, ii03, ii04, ii05, ii12, ii13, ii14, ii15, ii20, ii21, ii23, ii24, ii25, ii30, ii31, ii32, ii34, ii35, ii40, ii41, ii42, ii43, ii45, ii50, ii51, ii52, ii53, ii54, bi_z, Option.some.injEq, reduceCtorEq, Nat.reduceLeDiff]
/-- the stakes of birds that are not gone, and of those that are -/
noncomputable def gs (P : Nat → Prop) (st : Nat → Nat) : Nat → Nat
  | 0 => 0
  | k + 1 => gs P st k + @ite _ (P k) (Classical.propDecidable _) (st k) 0
theorem gs_y {P : Nat → Prop} {st : Nat → Nat} {k : Nat} (h : P k) : gs P st (k + 1) = gs P st k + st k := by
  show gs P st k + @ite _ (P k) (Classical.propDecidable _) (st k) 0 = _
  rw [if_pos h]
theorem gs_n {P : Nat → Prop} {st : Nat → Nat} {k : Nat} (h : ¬ P k) : gs P st (k + 1) = gs P st k := by
  show gs P st k + @ite _ (P k) (Classical.propDecidable _) (st k) 0 = _
  rw [if_neg h, Nat.add_zero]
theorem gs_le (P : Nat → Prop) {st : Nat → Nat} (hst : ∀ b, b < 24 → st b ≤ 10000) : ∀ k, k ≤ 24 → gs P st k ≤ 10000 * k := by
  intro k
  induction k with
  | zero => intro _; exact Nat.le_refl _
  | succ k ih =>
    intro hk
    have a := ih (by omega)
    have b := hst k (by omega)
    by_cases e : P k
    · rw [gs_y e]; omega
    · rw [gs_n e]; omega
/-- only numbers of the object y have changed -/
def frG (y : Nat) (c c' : Mem) : Prop := mK c' = mK c ∧ mL c' = mL c ∧ mR c' = mR c ∧ mN c' = mN c ∧ mJ c' = mJ c ∧ ∀ x, x ≠ y → mI c' x = mI c x
theorem frG.sI {y : Nat} {c : Mem} {j : Nat} {v : Int32} : frG y c (sI c y j v) := ⟨rfl, rfl, rfl, rfl, rfl, fun x hx => mI_sI_o hx⟩
theorem frG.tr {y : Nat} {a b c : Mem} (h : frG y a b) (g : frG y b c) : frG y a c := ⟨g.1.trans h.1, g.2.1.trans h.2.1, g.2.2.1.trans h.2.2.1, g.2.2.2.1.trans h.2.2.2.1, g.2.2.2.2.1.trans h.2.2.2.2.1, fun x hx => (g.2.2.2.2.2 x hx).trans (h.2.2.2.2.2 x hx)⟩
theorem frG.rf (y : Nat) (c : Mem) : frG y c c := ⟨rfl, rfl, rfl, rfl, rfl, fun _ _ => rfl⟩
theorem lp_gather (F : Nat) {q w y : Nat} {st : Nat → Nat} {G : Nat → Prop} {p : Int32} (hst : ∀ b, b < 24 → st b ≤ 10000) (hyq : y ≠ q + 11) (hyw : y ≠ w) :
    ∀ j k M c, k + j = 24 → j < M → shF c q → mK c w = 22 → mL c w = 24 → mK c y = 4 → (∀ b, b < 24 → mI c w b = nI (st b)) → (∀ b, b < 24 → (p < mI c (q + 11) b ↔ ¬ G b)) → mI c y 1 = nI (gs (fun b => ¬ G b) st k) → mI c y 3 = nI (gs G st k) →
      ∃ c', f_X3_gather_b13 F y M c (some w) (some q) p (nI k) = some ((), c') ∧ frG y c c' ∧ mI c' y 1 = nI (gs (fun b => ¬ G b) st 24) ∧ mI c' y 3 = nI (gs G st 24) ∧ ∀ x, x ≠ 1 → x ≠ 3 → mI c' y x = mI c y x := by
  intro j
  induction j with
  | zero =>
    intro k M c hk hM hF hkw hlw hky hs hG e1 e3
    obtain ⟨M, rfl⟩ : ∃ x, M = x + 1 := ⟨M - 1, by omega⟩
    obtain rfl : k = 24 := by omega
    have q1 : nI 24 ≤ nI 24 := nI_le (Nat.le_refl _) (by decide)
    have k21 : (21 : Nat) ≤ 22 := by decide
    have k27 : (22 : Nat) ≤ 27 := by decide
    refine ⟨c, ?_, frG.rf y c, e1, e3, fun _ _ _ => rfl⟩
    show f_X3_gather_b13_it F (f_X3_gather_b13 F y M) y c (some w) (some q) p (nI 24) = _
    simp only [f_X3_gather_b13_it, hkw, hlw, k21, k27, q1, nx_eq, ck_true, br_true, br_false, bd_eq, de_eq, mN_sI_, mK_sI_, mL_sI_, mI_sI_ap, mJ_sI_, mR_sI_, mN_sJ_, mK_sJ_, mL_sJ_, mI_sJ_, mJ_sJ_ap, mR_sJ_, mN_sR_, mK_sR_, mL_sR_, mI_sR_, mJ_sR_, mR_sR_ap, Nat.reduceEqDiff, Nat.reduceAdd, ↓reduceIte, and_true, true_and, and_false, false_and, or_true, true_or, or_false, false_or, not_true_eq_false, not_false_eq_true, i10, i01, ii01, ii02, ii03, ii04, ii05, ii12, ii13, ii14, ii15, ii20, ii21, ii23, ii24, ii25, ii30, ii31, ii32, ii34, ii35, ii40, ii41, ii42, ii43, ii45, ii50, ii51, ii52, ii53, ii54, bi_z, Option.some.injEq, reduceCtorEq, Nat.reduceLeDiff]
  | succ j ih =>
    intro k M c hk hM hF hkw hlw hky hs hG e1 e3
    obtain ⟨M, rfl⟩ : ∃ x, M = x + 1 := ⟨M - 1, by omega⟩
    have hk24 : k < 24 := by omega
    have q1 : ¬ nI 24 ≤ nI k := nI_ge hk24 (by decide)
    have k21 : (21 : Nat) ≤ 22 := by decide
    have k27 : (22 : Nat) ≤ 27 := by decide
    have k3 := hF.base.1
    have vk := vp_nI hk24 (show 24 < 2147483648 by decide)
    have nk := nI_cl (show k < 2147483648 by omega)
    have eW := e_isWd F hF hk24 p
    have hs1 := hs k hk24
    have hG1 := hG k hk24
    have go : ∀ (t : Nat) (v : Int32), t = 1 ∨ t = 3 → mI (sI c y t v) y 1 = nI (gs (fun b => ¬ G b) st (k + 1)) → mI (sI c y t v) y 3 = nI (gs G st (k + 1)) → ∃ c', f_X3_gather_b13 F y M (sI c y t v) (some w) (some q) p (nI (k + 1)) = some ((), c') ∧ frG y c c' ∧ mI c' y 1 = nI (gs (fun b => ¬ G b) st 24) ∧ mI c' y 3 = nI (gs G st 24) ∧ ∀ x, x ≠ 1 → x ≠ 3 → mI c' y x = mI c y x := by
      intro t v ht f1 f3
      obtain ⟨c', w1, w2, w3, w4, w5⟩ := ih (k + 1) M (sI c y t v) (by omega) (by omega) hF hkw hlw hky (fun b hb => by rw [mI_sI_o (fun e => hyw e.symm)]; exact hs b hb) (fun b hb => by rw [mI_sI_o (fun e => hyq e.symm)]; exact hG b hb) f1 f3
      exact ⟨c', w1, frG.sI.tr w2, w3, w4, fun x x1 x2 => by rw [w5 x x1 x2, mI_sI_j (by omega)]⟩
    by_cases e : G k
    · have h2 : ¬ p < mI c (q + 11) k := fun z => (hG1.mp z) e
      rw [bi_t h2] at eW
      obtain ⟨c', w1, w2⟩ := go 3 (nI (gs G st k + st k)) (Or.inr rfl) (by rw [mI_sI_j (by decide), gs_n (fun z => z e)]; exact e1) (by rw [mI_sI_e, gs_y e])
      refine ⟨c', ?_, w2⟩
      show f_X3_gather_b13_it F (f_X3_gather_b13 F y M) y c (some w) (some q) p (nI k) = _
      simp only [f_X3_gather_b13_it, f_X3_gather_b59, hkw, hlw, k21, k27, q1, k3, eW, hky, vk, nk, e3, hs1, nI_add, nI_1, w1, nx_eq, ck_true, br_true, br_false, bd_eq, de_eq, mN_sI_, mK_sI_, mL_sI_, mI_sI_ap, mJ_sI_, mR_sI_, mN_sJ_, mK_sJ_, mL_sJ_, mI_sJ_, mJ_sJ_ap, mR_sJ_, mN_sR_, mK_sR_, mL_sR_, mI_sR_, mJ_sR_, mR_sR_ap, Nat.reduceEqDiff, Nat.reduceAdd, ↓reduceIte, and_true, true_and, and_false, false_and, or_true, true_or, or_false, false_or, not_true_eq_false, not_false_eq_true, i10, i01, ii01, ii02, ii03, ii04, ii05, ii12, ii13, ii14, ii15, ii20, ii21, ii23, ii24, ii25, ii30, ii31, ii32, ii34, ii35, ii40, ii41, ii42, ii43, ii45, ii50, ii51, ii52, ii53, ii54, bi_z, Option.some.injEq, reduceCtorEq, Nat.reduceLeDiff]
    · have h2 : p < mI c (q + 11) k := hG1.mpr e
      rw [bi_f (fun z => z h2)] at eW
      obtain ⟨c', w1, w2⟩ := go 1 (nI (gs (fun b => ¬ G b) st k + st k)) (Or.inl rfl) (by rw [mI_sI_e, gs_y e]) (by rw [mI_sI_j (by decide), gs_n e]; exact e3)
      refine ⟨c', ?_, w2⟩
      show f_X3_gather_b13_it F (f_X3_gather_b13 F y M) y c (some w) (some q) p (nI k) = _
      simp only [f_X3_gather_b13_it, f_X3_gather_b59, hkw, hlw, k21, k27, q1, k3, eW, hky, vk, nk, e1, hs1, nI_add, nI_1, w1, nx_eq, ck_true, br_true, br_false, bd_eq, de_eq, mN_sI_, mK_sI_, mL_sI_, mI_sI_ap, mJ_sI_, mR_sI_, mN_sJ_, mK_sJ_, mL_sJ_, mI_sJ_, mJ_sJ_ap, mR_sJ_, mN_sR_, mK_sR_, mL_sR_, mI_sR_, mJ_sR_, mR_sR_ap, Nat.reduceEqDiff, Nat.reduceAdd, ↓reduceIte, and_true, true_and, and_false, false_and, or_true, true_or, or_false, false_or, not_true_eq_false, not_false_eq_true, i10, i01, ii01, ii02, ii03, ii04, ii05, ii12, ii13, ii14, ii15, ii20, ii21, ii23, ii24, ii25, ii30, ii31, ii32, ii34, ii35, ii40, ii41, ii42, ii43, ii45, ii50, ii51, ii52, ii53, ii54, bi_z, Option.some.injEq, reduceCtorEq, Nat.reduceLeDiff]
