/-! all birds, one behind the other -/
theorem frQ_90 (m : Mem) (g : Nat → Int32) : frQ m (wI m 90 g) := ⟨rfl, rfl, rfl, fun x _ h _ _ => mI_wI_o h, fun j _ => by rw [mI_wI_o (by decide)], fun _ _ _ => rfl⟩
theorem lp_rank (F : Nat) (hF : 1000 ≤ F) {d : Mem} {f q S L N nw nl last day l z : Nat} (hD : DF d f S L N) (hl : last ≤ 40000) (hz : z = 33 ∨ z = 40) (hd : day ≤ 400) (hll : l < nl) :
    ∀ j b M M' c m n ln, b + j = N → j < M → j < M' → WK d c m f q S L N nw nl last day → mI c z 6 = nI n → mI m 50 60 = nI n → n ≤ b → (∀ i, i < n → ent d f S N last day c m z i (ln i)) → (∀ i, i < n → ln i < b) → DST n ln → SRT d f S last day n ln →
      ∃ c' m' n' ln', f_X10_rankInto_b25 F 0 M c (some z) (some q) (nI l) (nI day) (nI b) = f_X10_rankInto_b141 F 0 c' (some z) (nI l) ∧ f_X11_results_b15 F 50 M' m (nI f) (nI l) (nI day) (nI b) = f_X11_results_b202 F 50 F m' (nI f) (mI m' 77 (6 * nw + l)) (0 : Int32) (0 : Int32) ∧ frZ z c c' ∧ frQ m m' ∧ mI c' z 6 = nI n' ∧ mI m' 50 60 = nI n' ∧ n' ≤ 24 ∧ (∀ i, i < n' → ent d f S N last day c' m' z i (ln' i)) ∧ DST n' ln' ∧ SRT d f S last day n' ln' := by
  intro j
  induction j with
  | zero =>
    intro b M M' c m n ln hb hM1 hM2 hW hc6 hm6 hnb hent hlt hdst hsrt
    obtain ⟨M, rfl⟩ : ∃ x, M = x + 1 := ⟨M - 1, by omega⟩
    obtain ⟨M', rfl⟩ : ∃ x, M' = x + 1 := ⟨M' - 1, by omega⟩
    obtain rfl : b = N := by omega
    have hN := hD.2.2.2.1
    have hC := hW.1.1
    have hM := hW.2.1.1
    have h6 : mI c 26 6 = nI b := hW.1.2.2.2.2.2.2.2.2.2.1
    have h6m : mI m 50 6 = nI b := hW.2.1.2.2.2.2.2.2.1
    obtain ⟨b1, b2, b3, b4, -⟩ := hW.2.2.2.1
    have q1 : nI b ≤ nI b := nI_le (Nat.le_refl _) (by omega)
    have vX := vp_nI (show 6 * nw + l < 12 by omega) (show 12 < 2147483648 by decide)
    have nX := nI_cl (show 6 * nw + l < 2147483648 by omega)
    refine ⟨c, m, n, ln, ?_, ?_, frZ.rf z c, frQ.rf m, hc6, hm6, by omega, hent, hdst, hsrt⟩
    · show f_X10_rankInto_b25_it F (f_X10_rankInto_b25 F 0 M) 0 c (some z) (some q) (nI l) (nI day) (nI b) = _
      simp only [f_X10_rankInto_b25_it, f_X1_birdCount, hC, h6, q1, nx_eq, ck_true, br_true, br_false, bd_eq, de_eq, mN_sI_, mK_sI_, mL_sI_, mI_sI_ap, mJ_sI_, mR_sI_, mN_sJ_, mK_sJ_, mL_sJ_, mI_sJ_, mJ_sJ_ap, mR_sJ_, mN_sR_, mK_sR_, mL_sR_, mI_sR_, mJ_sR_, mR_sR_ap, Nat.reduceEqDiff, Nat.reduceAdd, ↓reduceIte, and_true, true_and, and_false, false_and, or_true, true_or, or_false, false_or, not_true_eq_false, not_false_eq_true, i10, i01, ii01, ii02, ii03, ii04, ii05, ii12, ii13, ii14, ii15, ii20, ii21, ii23, ii24, ii25, ii30, ii31, ii32, ii34, ii35, ii40, ii41, ii42, ii43, ii45, ii50, ii51, ii52, ii53, ii54, bi_z, Option.some.injEq, reduceCtorEq, Nat.reduceLeDiff]
    · show f_X11_results_b15_it F (f_X11_results_b15 F 50 M') 50 m (nI f) (nI l) (nI day) (nI b) = _
      simp only [f_X11_results_b15_it, hM, h6m, q1, b4, i6, vX, nX, nx_eq, ck_true, br_true, br_false, bd_eq, de_eq, mN_sI_, mK_sI_, mL_sI_, mI_sI_ap, mJ_sI_, mR_sI_, mN_sJ_, mK_sJ_, mL_sJ_, mI_sJ_, mJ_sJ_ap, mR_sJ_, mN_sR_, mK_sR_, mL_sR_, mI_sR_, mJ_sR_, mR_sR_ap, Nat.reduceEqDiff, Nat.reduceAdd, ↓reduceIte, and_true, true_and, and_false, false_and, or_true, true_or, or_false, false_or, not_true_eq_false, not_false_eq_true, i10, i01, ii01, ii02, ii03, ii04, ii05, ii12, ii13, ii14, ii15, ii20, ii21, ii23, ii24, ii25, ii30, ii31, ii32, ii34, ii35, ii40, ii41, ii42, ii43, ii45, ii50, ii51, ii52, ii53, ii54, bi_z, Option.some.injEq, reduceCtorEq, Nat.reduceLeDiff]
  | succ j ih =>
    intro b M M' c m n ln hb hM1 hM2 hW hc6 hm6 hnb hent hlt hdst hsrt
    obtain ⟨M, rfl⟩ : ∃ x, M = x + 1 := ⟨M - 1, by omega⟩
    obtain ⟨M', rfl⟩ : ∃ x, M' = x + 1 := ⟨M' - 1, by omega⟩
    have hN := hD.2.2.2.1
    have f6 := hD.1
    have hbN : b < N := by omega
    have hC := hW.1.1
    have hM := hW.2.1.1
    have hsF := hW.1.2.1
    have k3 := hsF.base.1
    have h6 : mI c 26 6 = nI N := hW.1.2.2.2.2.2.2.2.2.2.1
    have h6m : mI m 50 6 = nI N := hW.2.1.2.2.2.2.2.2.1
    have c0 : mI c q 0 = nI (zfx d f) := hW.1.2.2.2.1
    have c00 : mI c q 1 = nI (zfy d f) := hW.1.2.2.2.2.1
    have q1 : ¬ nI N ≤ nI b := nI_ge hbN (by omega)
    have q2 : ¬ (24 : Int32) ≤ nI b := nI_ge (b := 24) (by omega) (by decide)
    have vb := vp_nI (show b < 24 by omega) (show 24 < 2147483648 by decide)
    have nb := nI_cl (show b < 2147483648 by omega)
    have e49 := hW.2.2.2.2.2.1 b (by omega)
    obtain ⟨e85, -⟩ := hW.2.2.2.2.2.2 b hbN
    have wA := e_waySq F hD hW.1 hbN
    have lW := zW_le hD hbN
    have qW : (lN (zW d f b) ≤ lN 0) = (zW d f b ≤ 0) := lNle (by omega) (by decide)
    have hcx : ∀ r, f_X10_rankInto_b25_it F (f_X10_rankInto_b25 F 0 M) 0 c (some z) (some q) (nI l) (nI day) (nI b) = r → f_X10_rankInto_b25 F 0 (M + 1) c (some z) (some q) (nI l) (nI day) (nI b) = r := fun r e => e
    have hmx : ∀ r, f_X11_results_b15_it F (f_X11_results_b15 F 50 M') 50 m (nI f) (nI l) (nI day) (nI b) = r → f_X11_results_b15 F 50 (M' + 1) m (nI f) (nI l) (nI day) (nI b) = r := fun r e => e
    have skip : ∀ m2, frQ m m2 → mI m2 50 60 = mI m 50 60 → mI m2 91 = mI m 91 → ∃ c' m' n' ln', f_X10_rankInto_b25 F 0 M c (some z) (some q) (nI l) (nI day) (nI (b + 1)) = f_X10_rankInto_b141 F 0 c' (some z) (nI l) ∧ f_X11_results_b15 F 50 M' m2 (nI f) (nI l) (nI day) (nI (b + 1)) = f_X11_results_b202 F 50 F m' (nI f) (mI m' 77 (6 * nw + l)) (0 : Int32) (0 : Int32) ∧ frZ z c c' ∧ frQ m m' ∧ mI c' z 6 = nI n' ∧ mI m' 50 60 = nI n' ∧ n' ≤ 24 ∧ (∀ i, i < n' → ent d f S N last day c' m' z i (ln' i)) ∧ DST n' ln' ∧ SRT d f S last day n' ln' := by
      intro m2 fr e60 e91
      obtain ⟨c', m', n', ln', w1, w2, w3, w4, w5⟩ := ih (b + 1) M M' c m2 n ln (by omega) (by omega) (by omega) (hW.cg hz (frZ.rf z c) fr) hc6 (e60.trans hm6) (by omega) (fun i hi => (hent i hi).cg rfl rfl rfl rfl (by rw [e91])) (fun i hi => by have := hlt i hi; omega) hdst hsrt
      exact ⟨c', m', n', ln', w1, w2, w3, fr.tr w4, w5⟩
    cases es : sk d f S last day b with
    | none =>
      rw [es] at e49
      have x1 : mI c 49 b = -1 := e49
      have x2 : mI m 85 b < 0 := by
        rw [e85, es]
        by_cases w : 0 < zW d f b
        · rw [if_pos w]; decide
        · rw [if_neg w]; decide
      obtain ⟨c', m', n', ln', w1, w2, w3⟩ := skip m (frQ.rf m) rfl rfl
      refine ⟨c', m', n', ln', hcx _ ?_, hmx _ ?_, w3⟩
      · simp only [f_X10_rankInto_b25_it, f_X10_rankInto_b135, f_X1_birdCount, hC, h6, q1, q2, vb, nb, x1, k3, c0, c00, wA, nI_1, w1, nx_eq, ck_true, br_true, br_false, bd_eq, de_eq, mN_sI_, mK_sI_, mL_sI_, mI_sI_ap, mJ_sI_, mR_sI_, mN_sJ_, mK_sJ_, mL_sJ_, mI_sJ_, mJ_sJ_ap, mR_sJ_, mN_sR_, mK_sR_, mL_sR_, mI_sR_, mJ_sR_, mR_sR_ap, Nat.reduceEqDiff, Nat.reduceAdd, ↓reduceIte, and_true, true_and, and_false, false_and, or_true, true_or, or_false, false_or, not_true_eq_false, not_false_eq_true, i10, i01, ii01, ii02, ii03, ii04, ii05, ii12, ii13, ii14, ii15, ii20, ii21, ii23, ii24, ii25, ii30, ii31, ii32, ii34, ii35, ii40, ii41, ii42, ii43, ii45, ii50, ii51, ii52, ii53, ii54, bi_z, Option.some.injEq, reduceCtorEq, Nat.reduceLeDiff]
      · simp only [f_X11_results_b15_it, f_X11_results_b92, f_X11_results_b93, f_X11_results_b174, hM, h6m, q1, vb, nb, x2, nI_1, w2, nx_eq, ck_true, br_true, br_false, bd_eq, de_eq, mN_sI_, mK_sI_, mL_sI_, mI_sI_ap, mJ_sI_, mR_sI_, mN_sJ_, mK_sJ_, mL_sJ_, mI_sJ_, mJ_sJ_ap, mR_sJ_, mN_sR_, mK_sR_, mL_sR_, mI_sR_, mJ_sR_, mR_sR_ap, Nat.reduceEqDiff, Nat.reduceAdd, ↓reduceIte, and_true, true_and, and_false, false_and, or_true, true_or, or_false, false_or, not_true_eq_false, not_false_eq_true, i10, i01, ii01, ii02, ii03, ii04, ii05, ii12, ii13, ii14, ii15, ii20, ii21, ii23, ii24, ii25, ii30, ii31, ii32, ii34, ii35, ii40, ii41, ii42, ii43, ii45, ii50, ii51, ii52, ii53, ii54, bi_z, Option.some.injEq, reduceCtorEq, Nat.reduceLeDiff]
    | some k =>
      have ek := sk_b es
      rw [es] at e49
      have x1 : mI c 49 b = nI k := e49
      have hsb : sk d f S last day b = some (ks d f S last day b) := by rw [es, ek]
      obtain ⟨s1, s2⟩ := sk_C hsb
      have hS := hD.2.1
      rw [ek] at s1 s2
      have x1n : ¬ (nI k : Int32) = -1 := fun e => absurd (nI_pos (n := k) (by omega)) (by rw [e]; decide)
      by_cases w : 0 < zW d f b
      · have wn : ¬ zW d f b ≤ 0 := by omega
        rw [if_pos w, es] at e85
        have x2 : ¬ mI m 85 b < 0 := by rw [e85]; exact nI_pos (by omega)
        have eO := e_isOut F hsF (show b < 24 by omega) (nI day)
        have eG := e_isGone F hM f6 (show b < 24 by omega) hd hW.2.2.2.2.1
        obtain ⟨hd1, -⟩ := hW.2.2.2.2.1 b (by omega)
        obtain ⟨-, dp⟩ := dayP hd1 hd
        have v24 := vp_nI (show 24 * f + b < 144 by omega) (show 144 < 2147483648 by decide)
        have n24 := nI_cl (show 24 * f + b < 2147483648 by omega)
        by_cases g1 : nI day < mI c (q + 11) b
        · rw [bi_f (fun z => z g1)] at eG
          by_cases g2 : nI day < mI c (q + 10) b
          · rw [bi_f (fun z => z.elim (fun y => y g1) (fun y => y g2))] at eO
            obtain ⟨r, g, t1, t2, t3⟩ := e_holds F hF hC hM hW.2.2.1 hW.2.2.2.1 hll hbN
            have go : ∀ r', f_X11_results_b78 F (f_X11_results_b15 F 50 M') 50 m (nI f) (nI l) (nI day) (nI b) = r' → f_X11_results_b15 F 50 (M' + 1) m (nI f) (nI l) (nI day) (nI b) = r' := by
              intro r' e
              refine hmx _ ?_
              rw [← e]
              by_cases y0 : mI m 71 (24 * f + b) = 0
              · simp only [f_X11_results_b15_it, hM, h6m, q1, vb, nb, x2, eG, i24, v24, n24, y0, nx_eq, ck_true, br_true, br_false, bd_eq, de_eq, mN_sI_, mK_sI_, mL_sI_, mI_sI_ap, mJ_sI_, mR_sI_, mN_sJ_, mK_sJ_, mL_sJ_, mI_sJ_, mJ_sJ_ap, mR_sJ_, mN_sR_, mK_sR_, mL_sR_, mI_sR_, mJ_sR_, mR_sR_ap, Nat.reduceEqDiff, Nat.reduceAdd, ↓reduceIte, and_true, true_and, and_false, false_and, or_true, true_or, or_false, false_or, not_true_eq_false, not_false_eq_true, i10, i01, ii01, ii02, ii03, ii04, ii05, ii12, ii13, ii14, ii15, ii20, ii21, ii23, ii24, ii25, ii30, ii31, ii32, ii34, ii35, ii40, ii41, ii42, ii43, ii45, ii50, ii51, ii52, ii53, ii54, bi_z, Option.some.injEq, reduceCtorEq, Nat.reduceLeDiff]
              · have y1 : ¬ mI m 71 (24 * f + b) - 1 ≤ nI day := by
                  rw [dp] at g2
                  exact g2.resolve_left y0
                simp only [f_X11_results_b15_it, hM, h6m, q1, vb, nb, x2, eG, i24, v24, n24, y0, y1, nx_eq, ck_true, br_true, br_false, bd_eq, de_eq, mN_sI_, mK_sI_, mL_sI_, mI_sI_ap, mJ_sI_, mR_sI_, mN_sJ_, mK_sJ_, mL_sJ_, mI_sJ_, mJ_sJ_ap, mR_sJ_, mN_sR_, mK_sR_, mL_sR_, mI_sR_, mJ_sR_, mR_sR_ap, Nat.reduceEqDiff, Nat.reduceAdd, ↓reduceIte, and_true, true_and, and_false, false_and, or_true, true_or, or_false, false_or, not_true_eq_false, not_false_eq_true, i10, i01, ii01, ii02, ii03, ii04, ii05, ii12, ii13, ii14, ii15, ii20, ii21, ii23, ii24, ii25, ii30, ii31, ii32, ii34, ii35, ii40, ii41, ii42, ii43, ii45, ii50, ii51, ii52, ii53, ii54, bi_z, Option.some.injEq, reduceCtorEq, Nat.reduceLeDiff]
            rcases t3 with r0 | r0
            · subst r0
              obtain ⟨c', m', n', ln', w1, w2, w3⟩ := skip (wI m 90 g) (frQ_90 m g) (by rw [mI_wI_o (by decide)]) (mI_wI_o (by decide))
              refine ⟨c', m', n', ln', hcx _ ?_, go _ ?_, w3⟩
              · simp only [f_X10_rankInto_b25_it, f_X10_rankInto_b135, f_X1_birdCount, hC, h6, q1, q2, vb, nb, x1, x1n, k3, c0, c00, wA, cmp_le0, lN0, qW, wn, eO, t1, nI_1, w1, nx_eq, ck_true, br_true, br_false, bd_eq, de_eq, mN_sI_, mK_sI_, mL_sI_, mI_sI_ap, mJ_sI_, mR_sI_, mN_sJ_, mK_sJ_, mL_sJ_, mI_sJ_, mJ_sJ_ap, mR_sJ_, mN_sR_, mK_sR_, mL_sR_, mI_sR_, mJ_sR_, mR_sR_ap, Nat.reduceEqDiff, Nat.reduceAdd, ↓reduceIte, and_true, true_and, and_false, false_and, or_true, true_or, or_false, false_or, not_true_eq_false, not_false_eq_true, i10, i01, ii01, ii02, ii03, ii04, ii05, ii12, ii13, ii14, ii15, ii20, ii21, ii23, ii24, ii25, ii30, ii31, ii32, ii34, ii35, ii40, ii41, ii42, ii43, ii45, ii50, ii51, ii52, ii53, ii54, bi_z, Option.some.injEq, reduceCtorEq, Nat.reduceLeDiff]
              · simp only [f_X11_results_b78, f_X11_results_b92, f_X11_results_b93, f_X11_results_b174, hM, t2, nI_1, w2, nx_eq, ck_true, br_true, br_false, bd_eq, de_eq, mN_sI_, mK_sI_, mL_sI_, mI_sI_ap, mJ_sI_, mR_sI_, mN_sJ_, mK_sJ_, mL_sJ_, mI_sJ_, mJ_sJ_ap, mR_sJ_, mN_sR_, mK_sR_, mL_sR_, mI_sR_, mJ_sR_, mR_sR_ap, Nat.reduceEqDiff, Nat.reduceAdd, ↓reduceIte, and_true, true_and, and_false, false_and, or_true, true_or, or_false, false_or, not_true_eq_false, not_false_eq_true, i10, i01, ii01, ii02, ii03, ii04, ii05, ii12, ii13, ii14, ii15, ii20, ii21, ii23, ii24, ii25, ii30, ii31, ii32, ii34, ii35, ii40, ii41, ii42, ii43, ii45, ii50, ii51, ii52, ii53, ii54, bi_z, Option.some.injEq, reduceCtorEq, Nat.reduceLeDiff]
            · subst r0
              have hR1 : shR (sI c z 6 (nI (n + 1))) z := hC.rk hz
              have n24' : n < 24 := by omega
              obtain ⟨c1, m1, p', u0, u1, u2, u3, u4, u5, u6, u7, u8, u9⟩ := lp_ins F (by omega) hD hl hz hbN w hsb (ln := ln) (n := n) n24' (f_X11_results_b15 F 50 M') (nI l) (nI day) n F (sI c z 6 (nI (n + 1))) (wI m 90 g) (Nat.le_refl _) (by omega) hR1 (hW.2.1.cg (frQ_90 m g).frR) (hW.2.2.2.2.2.2.cg (frQ_90 m g)) (fun i hi => (hent i hi).cg (by rw [mI_sI_o (by omega)]) (by rw [mI_sI_o (by omega)]) rfl rfl (by rw [mI_wI_o (by decide)])) (fun i h1 h2 => absurd h2 (by omega))
              have fz : frZ z c c1 := (frZ.sI (by omega) (by omega)).tr u3
              have fq : frQ m m1 := (frQ_90 m g).tr u4
              obtain ⟨c', m', n', ln', w1, w2, w3, w4, w5⟩ := ih (b + 1) M M' c1 m1 (n + 1) (insA ln p' b) (by omega) (by omega) (by omega) (hW.cg hz fz fq) (by rw [u5, mI_sI_e]) (by rw [u6, mI_wI_o (by decide), hm6, nI_1]) (by omega) (fun i hi => u7 i (by omega)) (fun i hi => by
                  unfold insA
                  by_cases i1 : i < p'
                  · rw [if_pos i1]; have := hlt i (by omega); omega
                  · rw [if_neg i1]
                    by_cases i2 : i = p'
                    · rw [if_pos i2]; omega
                    · rw [if_neg i2]; have := hlt (i - 1) (by omega); omega) (hdst.ins hlt u0) (hsrt.ins (fun i hi => ent_Y hD hl (hent i hi)) u0 u8 u9)
              refine ⟨c', m', n', ln', hcx _ ?_, go _ ?_, fz.tr w3, fq.tr w4, w5⟩
              · have n6 : nI n < (24 : Int32) := nI_lt (b := 24) n24' (by decide)
                have kz : mK c z = 6 := (hC.rk hz).1
                rw [ek] at u1
                have eI : f_X5_insert F c z (nI b) (nI k) (lN (zV d f b k)) (lN (zY d f k)) = some ((), c1) := by
                  simp only [f_X5_insert, kz, hc6, n6, nI_1, u1, nx_eq, ck_true, br_true, br_false, bd_eq, de_eq, mN_sI_, mK_sI_, mL_sI_, mI_sI_ap, mJ_sI_, mR_sI_, mN_sJ_, mK_sJ_, mL_sJ_, mI_sJ_, mJ_sJ_ap, mR_sJ_, mN_sR_, mK_sR_, mL_sR_, mI_sR_, mJ_sR_, mR_sR_ap, Nat.reduceEqDiff, Nat.reduceAdd, ↓reduceIte, and_true, true_and, and_false, false_and, or_true, true_or, or_false, false_or, not_true_eq_false, not_false_eq_true, i10, i01, ii01, ii02, ii03, ii04, ii05, ii12, ii13, ii14, ii15, ii20, ii21, ii23, ii24, ii25, ii30, ii31, ii32, ii34, ii35, ii40, ii41, ii42, ii43, ii45, ii50, ii51, ii52, ii53, ii54, bi_z, Option.some.injEq, reduceCtorEq, Nat.reduceLeDiff]
                simp only [f_X10_rankInto_b25_it, f_X10_rankInto_b135, f_X1_birdCount, hC, h6, q1, q2, vb, nb, x1, x1n, k3, c0, c00, wA, cmp_le0, lN0, qW, wn, eO, t1, e_vU F hD hW.1 s1, e_vL F hD hW.1 s1 s2, kz, eI, nI_1, w1, nx_eq, ck_true, br_true, br_false, bd_eq, de_eq, mN_sI_, mK_sI_, mL_sI_, mI_sI_ap, mJ_sI_, mR_sI_, mN_sJ_, mK_sJ_, mL_sJ_, mI_sJ_, mJ_sJ_ap, mR_sJ_, mN_sR_, mK_sR_, mL_sR_, mI_sR_, mJ_sR_, mR_sR_ap, Nat.reduceEqDiff, Nat.reduceAdd, ↓reduceIte, and_true, true_and, and_false, false_and, or_true, true_or, or_false, false_or, not_true_eq_false, not_false_eq_true, i10, i01, ii01, ii02, ii03, ii04, ii05, ii12, ii13, ii14, ii15, ii20, ii21, ii23, ii24, ii25, ii30, ii31, ii32, ii34, ii35, ii40, ii41, ii42, ii43, ii45, ii50, ii51, ii52, ii53, ii54, bi_z, Option.some.injEq, reduceCtorEq, Nat.reduceLeDiff]
              · have e60 : mI (wI m 90 g) 50 60 = nI n := by rw [mI_wI_o (by decide)]; exact hm6
                simp only [f_X11_results_b78, f_X11_results_b93, mK_wI_, hM, t2, e60, u2, w2, nx_eq, ck_true, br_true, br_false, bd_eq, de_eq, mN_sI_, mK_sI_, mL_sI_, mI_sI_ap, mJ_sI_, mR_sI_, mN_sJ_, mK_sJ_, mL_sJ_, mI_sJ_, mJ_sJ_ap, mR_sJ_, mN_sR_, mK_sR_, mL_sR_, mI_sR_, mJ_sR_, mR_sR_ap, Nat.reduceEqDiff, Nat.reduceAdd, ↓reduceIte, and_true, true_and, and_false, false_and, or_true, true_or, or_false, false_or, not_true_eq_false, not_false_eq_true, i10, i01, ii01, ii02, ii03, ii04, ii05, ii12, ii13, ii14, ii15, ii20, ii21, ii23, ii24, ii25, ii30, ii31, ii32, ii34, ii35, ii40, ii41, ii42, ii43, ii45, ii50, ii51, ii52, ii53, ii54, bi_z, Option.some.injEq, reduceCtorEq, Nat.reduceLeDiff]
          · rw [bi_t (Or.inr g2)] at eO
            obtain ⟨c', m', n', ln', w1, w2, w3⟩ := skip m (frQ.rf m) rfl rfl
            have y0 : ¬ mI m 71 (24 * f + b) = 0 := fun e => g2 (by rw [dp]; exact Or.inl e)
            have y1 : mI m 71 (24 * f + b) - 1 ≤ nI day := Classical.byContradiction fun e => g2 (by rw [dp]; exact Or.inr e)
            refine ⟨c', m', n', ln', hcx _ ?_, hmx _ ?_, w3⟩
            · simp only [f_X10_rankInto_b25_it, f_X10_rankInto_b135, f_X1_birdCount, hC, h6, q1, q2, vb, nb, x1, x1n, k3, c0, c00, wA, cmp_le0, lN0, qW, wn, eO, nI_1, w1, nx_eq, ck_true, br_true, br_false, bd_eq, de_eq, mN_sI_, mK_sI_, mL_sI_, mI_sI_ap, mJ_sI_, mR_sI_, mN_sJ_, mK_sJ_, mL_sJ_, mI_sJ_, mJ_sJ_ap, mR_sJ_, mN_sR_, mK_sR_, mL_sR_, mI_sR_, mJ_sR_, mR_sR_ap, Nat.reduceEqDiff, Nat.reduceAdd, ↓reduceIte, and_true, true_and, and_false, false_and, or_true, true_or, or_false, false_or, not_true_eq_false, not_false_eq_true, i10, i01, ii01, ii02, ii03, ii04, ii05, ii12, ii13, ii14, ii15, ii20, ii21, ii23, ii24, ii25, ii30, ii31, ii32, ii34, ii35, ii40, ii41, ii42, ii43, ii45, ii50, ii51, ii52, ii53, ii54, bi_z, Option.some.injEq, reduceCtorEq, Nat.reduceLeDiff]
            · simp only [f_X11_results_b15_it, f_X11_results_b92, f_X11_results_b93, f_X11_results_b174, hM, h6m, q1, vb, nb, x2, eG, i24, v24, n24, y0, y1, nI_1, w2, nx_eq, ck_true, br_true, br_false, bd_eq, de_eq, mN_sI_, mK_sI_, mL_sI_, mI_sI_ap, mJ_sI_, mR_sI_, mN_sJ_, mK_sJ_, mL_sJ_, mI_sJ_, mJ_sJ_ap, mR_sJ_, mN_sR_, mK_sR_, mL_sR_, mI_sR_, mJ_sR_, mR_sR_ap, Nat.reduceEqDiff, Nat.reduceAdd, ↓reduceIte, and_true, true_and, and_false, false_and, or_true, true_or, or_false, false_or, not_true_eq_false, not_false_eq_true, i10, i01, ii01, ii02, ii03, ii04, ii05, ii12, ii13, ii14, ii15, ii20, ii21, ii23, ii24, ii25, ii30, ii31, ii32, ii34, ii35, ii40, ii41, ii42, ii43, ii45, ii50, ii51, ii52, ii53, ii54, bi_z, Option.some.injEq, reduceCtorEq, Nat.reduceLeDiff]
        · rw [bi_t g1] at eG
          rw [bi_t (Or.inl g1)] at eO
          obtain ⟨c', m', n', ln', w1, w2, w3⟩ := skip m (frQ.rf m) rfl rfl
          refine ⟨c', m', n', ln', hcx _ ?_, hmx _ ?_, w3⟩
          · simp only [f_X10_rankInto_b25_it, f_X10_rankInto_b135, f_X1_birdCount, hC, h6, q1, q2, vb, nb, x1, x1n, k3, c0, c00, wA, cmp_le0, lN0, qW, wn, eO, nI_1, w1, nx_eq, ck_true, br_true, br_false, bd_eq, de_eq, mN_sI_, mK_sI_, mL_sI_, mI_sI_ap, mJ_sI_, mR_sI_, mN_sJ_, mK_sJ_, mL_sJ_, mI_sJ_, mJ_sJ_ap, mR_sJ_, mN_sR_, mK_sR_, mL_sR_, mI_sR_, mJ_sR_, mR_sR_ap, Nat.reduceEqDiff, Nat.reduceAdd, ↓reduceIte, and_true, true_and, and_false, false_and, or_true, true_or, or_false, false_or, not_true_eq_false, not_false_eq_true, i10, i01, ii01, ii02, ii03, ii04, ii05, ii12, ii13, ii14, ii15, ii20, ii21, ii23, ii24, ii25, ii30, ii31, ii32, ii34, ii35, ii40, ii41, ii42, ii43, ii45, ii50, ii51, ii52, ii53, ii54, bi_z, Option.some.injEq, reduceCtorEq, Nat.reduceLeDiff]
          · simp only [f_X11_results_b15_it, f_X11_results_b92, f_X11_results_b93, f_X11_results_b174, hM, h6m, q1, vb, nb, x2, eG, nI_1, w2, nx_eq, ck_true, br_true, br_false, bd_eq, de_eq, mN_sI_, mK_sI_, mL_sI_, mI_sI_ap, mJ_sI_, mR_sI_, mN_sJ_, mK_sJ_, mL_sJ_, mI_sJ_, mJ_sJ_ap, mR_sJ_, mN_sR_, mK_sR_, mL_sR_, mI_sR_, mJ_sR_, mR_sR_ap, Nat.reduceEqDiff, Nat.reduceAdd, ↓reduceIte, and_true, true_and, and_false, false_and, or_true, true_or, or_false, false_or, not_true_eq_false, not_false_eq_true, i10, i01, ii01, ii02, ii03, ii04, ii05, ii12, ii13, ii14, ii15, ii20, ii21, ii23, ii24, ii25, ii30, ii31, ii32, ii34, ii35, ii40, ii41, ii42, ii43, ii45, ii50, ii51, ii52, ii53, ii54, bi_z, Option.some.injEq, reduceCtorEq, Nat.reduceLeDiff]
      · have wn : zW d f b ≤ 0 := by omega
        rw [if_neg w] at e85
        have x2 : mI m 85 b < 0 := by rw [e85]; decide
        obtain ⟨c', m', n', ln', w1, w2, w3⟩ := skip m (frQ.rf m) rfl rfl
        refine ⟨c', m', n', ln', hcx _ ?_, hmx _ ?_, w3⟩
        · simp only [f_X10_rankInto_b25_it, f_X10_rankInto_b135, f_X1_birdCount, hC, h6, q1, q2, vb, nb, x1, x1n, k3, c0, c00, wA, cmp_le0, lN0, qW, wn, nI_1, w1, nx_eq, ck_true, br_true, br_false, bd_eq, de_eq, mN_sI_, mK_sI_, mL_sI_, mI_sI_ap, mJ_sI_, mR_sI_, mN_sJ_, mK_sJ_, mL_sJ_, mI_sJ_, mJ_sJ_ap, mR_sJ_, mN_sR_, mK_sR_, mL_sR_, mI_sR_, mJ_sR_, mR_sR_ap, Nat.reduceEqDiff, Nat.reduceAdd, ↓reduceIte, and_true, true_and, and_false, false_and, or_true, true_or, or_false, false_or, not_true_eq_false, not_false_eq_true, i10, i01, ii01, ii02, ii03, ii04, ii05, ii12, ii13, ii14, ii15, ii20, ii21, ii23, ii24, ii25, ii30, ii31, ii32, ii34, ii35, ii40, ii41, ii42, ii43, ii45, ii50, ii51, ii52, ii53, ii54, bi_z, Option.some.injEq, reduceCtorEq, Nat.reduceLeDiff]
        · simp only [f_X11_results_b15_it, f_X11_results_b92, f_X11_results_b93, f_X11_results_b174, hM, h6m, q1, vb, nb, x2, nI_1, w2, nx_eq, ck_true, br_true, br_false, bd_eq, de_eq, mN_sI_, mK_sI_, mL_sI_, mI_sI_ap, mJ_sI_, mR_sI_, mN_sJ_, mK_sJ_, mL_sJ_, mI_sJ_, mJ_sJ_ap, mR_sJ_, mN_sR_, mK_sR_, mL_sR_, mI_sR_, mJ_sR_, mR_sR_ap, Nat.reduceEqDiff, Nat.reduceAdd, ↓reduceIte, and_true, true_and, and_false, false_and, or_true, true_or, or_false, false_or, not_true_eq_false, not_false_eq_true, i10, i01, ii01, ii02, ii03, ii04, ii05, ii12, ii13, ii14, ii15, ii20, ii21, ii23, ii24, ii25, ii30, ii31, ii32, ii34, ii35, ii40, ii41, ii42, ii43, ii45, ii50, ii51, ii52, ii53, ii54, bi_z, Option.some.injEq, reduceCtorEq, Nat.reduceLeDiff]
