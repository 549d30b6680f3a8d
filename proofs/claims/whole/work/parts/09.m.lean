/-! shares: both sides, group by group -/
theorem payG_le {sb : Nat → Nat} {v B : Nat} (hv : v ≤ B) : ∀ j k pz, (∀ b, pz b ≤ B) → ∀ b, payG sb v j k pz b ≤ B := by
  intro j
  induction j with
  | zero => intro k pz h b; exact h b
  | succ j ih =>
    intro k pz h
    refine ih (k + 1) (va_up pz (sb k) v) (fun b => ?_)
    by_cases e : b = sb k
    · rw [e, va_up_self]; exact hv
    · rw [va_up_ne _ _ e]; exact h b
theorem PAYS.cg {c m c' m' : Mem} {l X y : Nat} {py : Nat → Nat} (h : PAYS c m l X y py) (h22 : mI c' 22 = mI c 22) (h23 : mI c' 23 = mI c 23) (h79 : mI m' 79 = mI m 79) (h80 : mI m' 80 = mI m 80) : PAYS c' m' l X y py := by
  unfold PAYS at h ⊢
  rw [h22, h23, h79, h80]
  exact h
theorem e_payEach (F : Nat) {c : Mem} {y u e A n : Nat} (hu : u < e) (he : e ≤ 24) (hA : A < 2147483648) : f_X3_payEach F c y (some 40) (nI u) (nI e) (nI A) = f_X3_payEach_b21 F y F c (some 40) (nI e) (nI (A / (e - u))) (nI u) := by
  have g1 : (0 : Int32) < nI (e - u) := nI_lt (a := 0) (by omega) (by omega)
  have g2 : ¬ nI (e - u) = (0 : Int32) := nI_ne0 (by omega) (by omega)
  have g3 : nI A / nI (e - u) = nI (A / (e - u)) := pk_div hA (by omega) (by omega)
  simp only [f_X3_payEach, pk_sub (Nat.le_of_lt hu), g1, g2, g3, nx_eq, ck_true, br_true, br_false, bd_eq, de_eq, mN_sI_, mK_sI_, mL_sI_, mI_sI_ap, mJ_sI_, mR_sI_, mN_sJ_, mK_sJ_, mL_sJ_, mI_sJ_, mJ_sJ_ap, mR_sJ_, mN_sR_, mK_sR_, mL_sR_, mI_sR_, mJ_sR_, mR_sR_ap, Nat.reduceEqDiff, Nat.reduceAdd, ↓reduceIte, and_true, true_and, and_false, false_and, or_true, true_or, or_false, false_or, not_true_eq_false, not_false_eq_true, i10, i01, ii01, ii02, ii03, ii04, ii05, ii12, ii13, ii14, ii15, ii20, ii21, ii23, ii24, ii25, ii30, ii31, ii32, ii34, ii35, ii40, ii41, ii42, ii43, ii45, ii50, ii51, ii52, ii53, ii54, bi_z, Option.some.injEq, reduceCtorEq, Nat.reduceLeDiff]
theorem lp_share (F : Nat) (hF : 1000 ≤ F) {d : Mem} {f S L N last day n nw nl l yy T bk y : Nat} {sb pp py : Nat → Nat} (hD : DF d f S L N) (hl : last ≤ 40000) (hy : y = 47 ∨ 97 ≤ y) (hn : n ≤ 24) (hsb : ∀ i, i < n → sb i < N ∧ 0 < zW d f (sb i) ∧ sk d f S last day (sb i) = some (ks d f S last day (sb i))) (hE : ∀ i i', i < i' → i' < n → (vB d f S last day (sb i) (sb i') = 0 ↔ pp i = pp i')) (hpp : ∀ i, i < n → pp i ≤ 24) (hnl : nl ≤ 6) (hll : l < nl) (hw : nw ≤ 1) (hT : T ≤ 240000) :
    ∀ s u M M' c m pz pd, u + s = n → s < M → s < M' → shC c → mI c 17 9 = nI nl → PAYS c m l (6 * nw + l) yy py → mI c 40 6 = nI n → (∀ i, i < n → mI c 41 i = nI (sb i) ∧ mI c 43 i = nI (pp i)) → PO y c pz pd → mI c y 1 = nI T → MF d m f S N → BST d m f S N last day → mI m 50 31 = nI nw → (∀ i, i < n → mI m 96 i = nI (sb i)) → PM m pz T pd bk → (∀ b, pz b ≤ 5760000) → pd ≤ 5760000 * u →
      ∃ c' m' pz' pd', f_X3_share_b22 F y M c (some 40) (some 17) (nI l) (nI u) (0 : Int32) (nI u) = some ((), c') ∧ f_X11_work_b195 F 50 M' m (nI f) (nI l) (nI n) (mI m 79 (6 * nw + l)) (nI u) = some ((), m') ∧ frH y c c' ∧ (∀ x, x ≠ 2 → mI c' y x = mI c y x) ∧ PO y c' pz' pd' ∧ frV m m' ∧ PM m' pz' T pd' bk ∧ mJ m' 95 2 = lN T - lN pd' ∧ (∀ b, pz' b ≤ 5760000) ∧ pd' ≤ 5760000 * n := by
  have hN := hD.2.2.2.1
  intro s
  induction s using Nat.strongRecOn with
  | ind s ih =>
    intro u M M' c m pz pd hus hM1 hM2 hC h9 hP c6 h41 hPO e1 hMF hB h31 h96 hPM hpz hpd
    have hM := hMF.1
    have hpy := hP.2.2.2.2.2
    by_cases e0 : u = n
    · obtain ⟨M, rfl⟩ : ∃ x, M = x + 1 := ⟨M - 1, by omega⟩
      obtain ⟨M', rfl⟩ : ∃ x, M' = x + 1 := ⟨M' - 1, by omega⟩
      subst e0
      have kz : mK c 40 = 6 := (hC.rk (Or.inr rfl)).1
      have q1 : nI u ≤ nI u := nI_le (Nat.le_refl _) (by omega)
      obtain ⟨o1, o2, o3, o4⟩ := id hPM
      obtain ⟨y0, y1, y2, y3⟩ := y01
      obtain ⟨w0, w1, w2, w3⟩ := w01
      refine ⟨c, sJ m 95 2 (lN T - lN pd), pz, pd, ?_, ?_, frH.rf y c, fun _ _ => rfl, hPO, frV.sJ (Or.inr rfl), ⟨fun b hb => by rw [mJ_sJ_o (by decide)]; exact o1 b hb, by rw [mJ_sJ_j (by decide)]; exact o2, by rw [mJ_sJ_j (by decide)]; exact o3, by rw [mJ_sJ_j (by decide)]; exact o4⟩, mJ_sJ_e, hpz, hpd⟩
      · show f_X3_share_b22_it F (f_X3_share_b22 F y M) y c (some 40) (some 17) (nI l) (nI u) (0 : Int32) (nI u) = _
        simp only [f_X3_share_b22_it, f_X5_size, kz, c6, q1, nx_eq, ck_true, br_true, br_false, bd_eq, de_eq, mN_sI_, mK_sI_, mL_sI_, mI_sI_ap, mJ_sI_, mR_sI_, mN_sJ_, mK_sJ_, mL_sJ_, mI_sJ_, mJ_sJ_ap, mR_sJ_, mN_sR_, mK_sR_, mL_sR_, mI_sR_, mJ_sR_, mR_sR_ap, Nat.reduceEqDiff, Nat.reduceAdd, ↓reduceIte, and_true, true_and, and_false, false_and, or_true, true_or, or_false, false_or, not_true_eq_false, not_false_eq_true, i10, i01, ii01, ii02, ii03, ii04, ii05, ii12, ii13, ii14, ii15, ii20, ii21, ii23, ii24, ii25, ii30, ii31, ii32, ii34, ii35, ii40, ii41, ii42, ii43, ii45, ii50, ii51, ii52, ii53, ii54, bi_z, Option.some.injEq, reduceCtorEq, Nat.reduceLeDiff]
      · show f_X11_work_b195_it F (f_X11_work_b195 F 50 M') 50 m (nI f) (nI l) (nI u) (mI m 79 (6 * nw + l)) (nI u) = _
        simp only [f_X11_work_b195_it, q1, hM, w0, w1, w2, y0, y1, y2, o2, o3, nx_eq, ck_true, br_true, br_false, bd_eq, de_eq, mN_sI_, mK_sI_, mL_sI_, mI_sI_ap, mJ_sI_, mR_sI_, mN_sJ_, mK_sJ_, mL_sJ_, mI_sJ_, mJ_sJ_ap, mR_sJ_, mN_sR_, mK_sR_, mL_sR_, mI_sR_, mJ_sR_, mR_sR_ap, Nat.reduceEqDiff, Nat.reduceAdd, ↓reduceIte, and_true, true_and, and_false, false_and, or_true, true_or, or_false, false_or, not_true_eq_false, not_false_eq_true, i10, i01, ii01, ii02, ii03, ii04, ii05, ii12, ii13, ii14, ii15, ii20, ii21, ii23, ii24, ii25, ii30, ii31, ii32, ii34, ii35, ii40, ii41, ii42, ii43, ii45, ii50, ii51, ii52, ii53, ii54, bi_z, Option.some.injEq, reduceCtorEq, Nat.reduceLeDiff]
    · obtain ⟨e, g1, g2, g3, g4⟩ := ex_grp n pp (n - u - 1) u (by omega)
      obtain ⟨M', rfl⟩ : ∃ x, M' = x + 1 := ⟨M' - 1, by omega⟩
      obtain ⟨M2, rfl⟩ : ∃ x, M = (e - u - 1) + 1 + x := ⟨M - (e - u), by omega⟩
      obtain ⟨A, hAe⟩ : ∃ A, ac T py u (e - u) = A := ⟨_, rfl⟩
      have hAl := ac_le hT hpy u (e - u)
      rw [hAe] at hAl
      have hv : A / (e - u) ≤ 5760000 := Nat.le_trans (Nat.div_le_self _ _) (by omega)
      have eG := lp_grp F hC h9 hnl hll hP hn c6 (fun j hj => ⟨(h41 j hj).2, hpp j hj⟩) hPO.1 e1 hT g1 g2 g3 g4 (e - u - 1) 0 M2 (by omega)
      rw [hAe, e_payEach F (n := n) g1 (by omega) (by omega)] at eG
      have eG' : f_X3_share_b22 F y (e - u - 1 + 1 + M2) c (some 40) (some 17) (nI l) (nI u) (0 : Int32) (nI u) = bd (f_X3_payEach_b21 F y F c (some 40) (nI e) (nI (A / (e - u))) (nI u)) (fun _ s => f_X3_share_b22 F y M2 s (some 40) (some 17) (nI l) (nI e) (0 : Int32) (nI e)) := eG
      obtain ⟨c2, a1, a2, a3, a4⟩ := lp_pay F (v := A / (e - u)) hy hn g2 (fun i hi => by have := (hsb i hi).1; omega) (e - u) u F c pz pd (by omega) (by omega) (hC.rk (Or.inr rfl)) c6 (fun i hi => (h41 i hi).1) hPO
      obtain ⟨m2, b1, b2⟩ := lp_b208 F (by omega) (f_X11_work_b195 F 50 M') hD hl hn g1 g2 hsb hE g3 g4 (nI l) (mI m 79 (6 * nw + l)) (e - u - 1) (u + 1) F m (by omega) (by omega) (by omega) hMF hB h96
      have i2 : mI m2 = mI m := b2.2.2.2.1
      have hM2' : shM m2 := b2.shM hM
      have hPM2 := hPM.fl b2
      have eS := lp_b250 F (f_X11_work_b195 F 50 M') hM2' (c := c) (show l < 6 by omega) hw (by rw [i2]; exact h31) (hP.cg rfl rfl (by rw [i2]) (by rw [i2])) hT hPM2.2.1 g1 (by omega) (nI f) (nI n) (e - u) 0 F (by omega) (by omega)
      rw [hAe, i2] at eS
      have eS' : f_X11_work_b250 F (f_X11_work_b195 F 50 M') 50 F m2 (nI f) (nI l) (nI n) (mI m 79 (6 * nw + l)) (nI u) (nI e) (0 : Int64) (nI u) = f_X11_work_b307 F (f_X11_work_b195 F 50 M') 50 m2 (nI f) (nI l) (nI n) (mI m 79 (6 * nw + l)) (nI u) (nI e) (lN A) := eS
      obtain ⟨m3, d1, d2, d3⟩ := lp_b311 F (f_X11_work_b195 F 50 M') (sb := sb) (T := T) (bk := bk) hn g1 g2 (show A < 2147483648 by omega) (fun i hi => by have := (hsb i hi).1; omega) (nI f) (nI l) (nI n) (mI m 79 (6 * nw + l)) (e - u) u F m2 pz pd (by omega) (Nat.le_refl _) (by omega) hM2' (fun i hi => by rw [i2]; exact h96 i hi) hPM2
      have fv : frV m m3 := b2.frV.tr d2
      have i3 : mI m3 = mI m := fv.2.2.2.1
      have cc : ∀ x, x < 47 → mI c2 x = mI c x := fun x hx => a2.2.2.2.2.2 x (by omega) (by omega)
      have hC2 : shC c2 := hC.cg a2.1 a2.2.1 a2.2.2.1
      have hpd2 : pd + (e - u) * (A / (e - u)) ≤ 5760000 * e := by
        have q := Nat.mul_le_mul_left (e - u) hv
        have q2 : (e - u) * 5760000 = 5760000 * e - 5760000 * u := by rw [Nat.mul_comm, Nat.mul_sub]
        have q3 : 5760000 * u ≤ 5760000 * e := Nat.mul_le_mul_left _ (by omega)
        omega
      obtain ⟨c', m', pz', pd', x1, x2, x3, x4, x5, x6, x7, x8, x9, x10⟩ := ih (n - e) (by omega) e M2 M' c2 m3 (payG sb (A / (e - u)) (e - u) u pz) (pd + (e - u) * (A / (e - u))) (by omega) (by omega) (by omega) hC2 (by rw [cc 17 (by decide)]; exact h9) (hP.cg (cc 22 (by decide)) (cc 23 (by decide)) (by rw [i3]) (by rw [i3])) (by rw [cc 40 (by decide)]; exact c6) (fun i hi => by rw [cc 41 (by decide), cc 43 (by decide)]; exact h41 i hi) a4 (by rw [a3 1 (by decide)]; exact e1) (hMF.cg fv.frR) (hB.cv fv) (by rw [i3]; exact h31) (fun i hi => by rw [i3]; exact h96 i hi) d3 (payG_le hv _ _ _ hpz) hpd2
      refine ⟨c', m', pz', pd', ?_, ?_, a2.tr x3, fun x hx => by rw [x4 x hx, a3 x hx], x5, fv.tr x6, x7, x8, x9, x10⟩
      · rw [eG', a1, bd_eq]
        exact x1
      · have q1 : ¬ nI n ≤ nI u := nI_ge (by omega) (by omega)
        rw [i3] at x2
        show f_X11_work_b195_it F (f_X11_work_b195 F 50 M') 50 m (nI f) (nI l) (nI n) (mI m 79 (6 * nw + l)) (nI u) = _
        unfold f_X11_work_b195_it
        rw [br_f1 q1, nx_eq, nI_1, b1]
        unfold f_X11_work_b243
        rw [eS']
        unfold f_X11_work_b307
        rw [d1]
        exact x2
