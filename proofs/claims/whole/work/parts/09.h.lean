/-! result -/
theorem Rfls.fr {c m c' m' : Mem} {L N Fl : Nat} {fid S : Nat → Nat} (h : Rfls c m L N Fl fid S) (hc : frK c c') (hm : frR m m') : Rfls c' m' L N Fl fid S :=
  h.cg (Nat.le_refl _) (Nat.le_refl _) (fun x hx => hc.2.2.2.2.1 x (by omega)) (fun x hx => hc.2.2.2.2.2 x hx) (fun x h1 h2 => hm.2.2.2.1 x (by omega) (by omega)) hm.2.2.2.2.2 hc.1 hc.2.1 hc.2.2.1 hc.2.2.2.1 (by rw [hc.2.2.2.2.1 0 (by omega)]) (hm.2.2.2.2.1 10 (by decide))
theorem Rel.wkT {c m c' m' : Mem} (h : Rel c m) (hc : frK c c') (ht : Rtold c' m') (hK : mK m' = mK m) (hL : mL m' = mL m) (hR : mR m' = mR m) (hm : ∀ x, 51 ≤ x → x ≤ 83 → mI m' x = mI m x) (hs : ∀ j, j ≠ 60 → j ≠ 62 → mI m' 50 j = mI m 50 j) (hj : ∀ x, 75 ≤ x → x ≤ 76 → mJ m' x = mJ m x) : Rel c' m' := by
  obtain ⟨g1, g2, g3, g4, g5, g6⟩ := hc
  obtain ⟨a1, a2, a3, a4, a5, ⟨n, a6⟩, ⟨nw, nl, a7⟩, L, N, a8, Fl, fid, S, a9⟩ := h
  refine ⟨a1.cg g1 g2 g3, a2.cg hK hL hR, a3.cg g4 (by rw [g5 0 (by omega)]), ?_, ht, ⟨n, ?_⟩, ⟨nw, nl, ?_⟩, L, N, ?_, Fl, fid, S, ?_⟩
  · exact a4.cg (fun x _ _ => g5 x (by omega)) (hs 41 (by decide) (by decide)) (hs 42 (by decide) (by decide))
  · exact a6.cg (fun x _ _ => g5 x (by omega)) (hm 51 (by decide) (by decide)) (hs 1 (by decide) (by decide))
  · exact a7.cg (fun x _ _ => g5 x (by omega)) (fun x _ _ => hm x (by omega) (by omega)) (hs 31 (by decide) (by decide)) (hs 32 (by decide) (by decide))
  · exact a8.cg (fun x _ _ => g5 x (by omega)) (fun x _ _ => hm x (by omega) (by omega)) (hs 3 (by decide) (by decide)) (hs 6 (by decide) (by decide))
  · exact a9.cg (Nat.le_refl _) (Nat.le_refl _) (fun x hx => g5 x (by omega)) g6 (fun x h1 h2 => hm x (by omega) (by omega)) hj g1 g2 g3 g4 (by rw [g5 0 (by omega)]) (hs 10 (by decide) (by decide))
theorem i3k (k : Nat) : (3 : Int32) * nI k = nI (3 * k) := pk_mul 3 k
theorem p2k (k : Nat) : nI k + (2 : Int32) = nI (k + 2) := nI_add k 2
theorem lp_shown (F : Nat) {m : Mem} (hM : shM m) {n : Nat} (hn : n ≤ 24) (m6 : mI m 50 60 = nI n) {A P K : Nat → Nat} (hA : ∀ i, i < n → A i < 24 ∧ mI m 91 i = nI (A i) ∧ mI m 92 i = nI (P i) ∧ mI m 85 (A i) = nI (K i)) :
    ∀ j k (g : Nat → Int32) M, k + j = n → j < M → (∀ i, i < k → g (3 * i) = nI (A i) ∧ g (3 * i + 1) = nI (P i) ∧ g (3 * i + 2) = nI (K i)) → ∃ g', f_X11_result_b35 F 50 M (wI m 93 g) (nI k) = some (nI n, wI m 93 g') ∧ ∀ i, i < n → g' (3 * i) = nI (A i) ∧ g' (3 * i + 1) = nI (P i) ∧ g' (3 * i + 2) = nI (K i) := by
  intro j
  induction j with
  | zero =>
    intro k g M hk hM2 hg
    obtain ⟨M, rfl⟩ : ∃ x, M = x + 1 := ⟨M - 1, by omega⟩
    obtain rfl : k = n := by omega
    have q1 : nI k ≤ nI k := nI_le (Nat.le_refl _) (by omega)
    have e60 : mI (wI m 93 g) 50 60 = nI k := by rw [mI_wI_o (by decide)]; exact m6
    refine ⟨g, ?_, hg⟩
    show f_X11_result_b35_it F (f_X11_result_b35 F 50 M) 50 (wI m 93 g) (nI k) = _
    simp only [f_X11_result_b35_it, mK_wI_, hM, e60, q1, nx_eq, ck_true, br_true, br_false, bd_eq, de_eq, mN_sI_, mK_sI_, mL_sI_, mI_sI_ap, mJ_sI_, mR_sI_, mN_sJ_, mK_sJ_, mL_sJ_, mI_sJ_, mJ_sJ_ap, mR_sJ_, mN_sR_, mK_sR_, mL_sR_, mI_sR_, mJ_sR_, mR_sR_ap, Nat.reduceEqDiff, Nat.reduceAdd, ↓reduceIte, and_true, true_and, and_false, false_and, or_true, true_or, or_false, false_or, not_true_eq_false, not_false_eq_true, i10, i01, ii01, ii02, ii03, ii04, ii05, ii12, ii13, ii14, ii15, ii20, ii21, ii23, ii24, ii25, ii30, ii31, ii32, ii34, ii35, ii40, ii41, ii42, ii43, ii45, ii50, ii51, ii52, ii53, ii54, bi_z, Option.some.injEq, reduceCtorEq, Nat.reduceLeDiff]
  | succ j ih =>
    intro k g M hk hM2 hg
    obtain ⟨M, rfl⟩ : ∃ x, M = x + 1 := ⟨M - 1, by omega⟩
    have hkn : k < n := by omega
    obtain ⟨a0, a1, a2, a3⟩ := hA k hkn
    have q1 : ¬ nI n ≤ nI k := nI_ge hkn (by omega)
    obtain ⟨g', w1, w2⟩ := ih (k + 1) (va_up (va_up (va_up g (3 * k) (nI (A k))) (3 * k + 1) (nI (P k))) (3 * k + 2) (nI (K k))) M (by omega) (by omega) (fun i hi => by
      by_cases e : i = k
      · subst e
        refine ⟨?_, ?_, ?_⟩
        · rw [va_up_ne _ _ (by omega), va_up_ne _ _ (by omega), va_up_self]
        · rw [va_up_ne _ _ (by omega), va_up_self]
        · rw [va_up_self]
      · obtain ⟨b1, b2, b3⟩ := hg i (by omega)
        refine ⟨?_, ?_, ?_⟩
        · rw [va_up_ne _ _ (by omega), va_up_ne _ _ (by omega), va_up_ne _ _ (by omega)]; exact b1
        · rw [va_up_ne _ _ (by omega), va_up_ne _ _ (by omega), va_up_ne _ _ (by omega)]; exact b2
        · rw [va_up_ne _ _ (by omega), va_up_ne _ _ (by omega), va_up_ne _ _ (by omega)]; exact b3)
    refine ⟨g', ?_, w2⟩
    rw [← w1]
    have vk := vp_nI (show k < 24 by omega) (show 24 < 2147483648 by decide)
    have nk := nI_cl (show k < 2147483648 by omega)
    have va := vp_nI a0 (show 24 < 2147483648 by decide)
    have na := nI_cl (show A k < 2147483648 by omega)
    have v0 := vp_nI (show 3 * k < 72 by omega) (show 72 < 2147483648 by decide)
    have v1 := vp_nI (show 3 * k + 1 < 72 by omega) (show 72 < 2147483648 by decide)
    have v2 := vp_nI (show 3 * k + 2 < 72 by omega) (show 72 < 2147483648 by decide)
    have n0 := nI_cl (show 3 * k < 2147483648 by omega)
    have n1 := nI_cl (show 3 * k + 1 < 2147483648 by omega)
    have n2 := nI_cl (show 3 * k + 2 < 2147483648 by omega)
    have E : ∀ h, mI (wI m 93 h) 50 60 = nI n ∧ mI (wI m 93 h) 91 k = nI (A k) ∧ mI (wI m 93 h) 92 k = nI (P k) ∧ mI (wI m 93 h) 85 (A k) = nI (K k) := fun h => ⟨by rw [mI_wI_o (by decide)]; exact m6, by rw [mI_wI_o (by decide)]; exact a1, by rw [mI_wI_o (by decide)]; exact a2, by rw [mI_wI_o (by decide)]; exact a3⟩
    show f_X11_result_b35_it F (f_X11_result_b35 F 50 M) 50 (wI m 93 g) (nI k) = _
    simp only [f_X11_result_b35_it, mK_wI_, mL_wI_, mR_wI_, hM, E, q1, i3k, nI_1, p2k, vk, nk, va, na, v0, v1, v2, n0, n1, n2, sI_wI, nx_eq, ck_true, br_true, br_false, bd_eq, de_eq, mN_sI_, mK_sI_, mL_sI_, mI_sI_ap, mJ_sI_, mR_sI_, mN_sJ_, mK_sJ_, mL_sJ_, mI_sJ_, mJ_sJ_ap, mR_sJ_, mN_sR_, mK_sR_, mL_sR_, mI_sR_, mJ_sR_, mR_sR_ap, Nat.reduceEqDiff, Nat.reduceAdd, ↓reduceIte, and_true, true_and, and_false, false_and, or_true, true_or, or_false, false_or, not_true_eq_false, not_false_eq_true, i10, i01, ii01, ii02, ii03, ii04, ii05, ii12, ii13, ii14, ii15, ii20, ii21, ii23, ii24, ii25, ii30, ii31, ii32, ii34, ii35, ii40, ii41, ii42, ii43, ii45, ii50, ii51, ii52, ii53, ii54, bi_z, Option.some.injEq, reduceCtorEq, Nat.reduceLeDiff]
theorem e_askY (F : Nat) {m : Mem} (hM : shM m) {Fl nl f l : Nat} {p : Int32} (f3 : mI m 50 10 = nI Fl) (b6 : mI m 50 32 = nI nl) (h1 : Fl ≤ 6) (h2 : nl ≤ 6) (hf : f < Fl) (hl : l < nl) (hd : rgI 400 p) : f_X11_canAsk F m 50 (nI f) (nI l) p = some (1, m) := by
  simp only [f_X11_canAsk, e_X11_isFlight, e_X11_isList, e_X11_isDay, hM, f3, b6, bx_in hf (show Fl < 2147483648 by omega), bx_in hl (show nl < 2147483648 by omega), hd, nx_eq, ck_true, br_true, br_false, bd_eq, de_eq, mN_sI_, mK_sI_, mL_sI_, mI_sI_ap, mJ_sI_, mR_sI_, mN_sJ_, mK_sJ_, mL_sJ_, mI_sJ_, mJ_sJ_ap, mR_sJ_, mN_sR_, mK_sR_, mL_sR_, mI_sR_, mJ_sR_, mR_sR_ap, Nat.reduceEqDiff, Nat.reduceAdd, ↓reduceIte, and_true, true_and, and_false, false_and, or_true, true_or, or_false, false_or, not_true_eq_false, not_false_eq_true, i10, i01, ii01, ii02, ii03, ii04, ii05, ii12, ii13, ii14, ii15, ii20, ii21, ii23, ii24, ii25, ii30, ii31, ii32, ii34, ii35, ii40, ii41, ii42, ii43, ii45, ii50, ii51, ii52, ii53, ii54, bi_z, Option.some.injEq, reduceCtorEq, Nat.reduceLeDiff]
theorem e_askN (F : Nat) {m : Mem} (hM : shM m) {Fl nl : Nat} {p1 p2 p3 : Int32} (f3 : mI m 50 10 = nI Fl) (b6 : mI m 50 32 = nI nl) (h1 : Fl ≤ 6) (h2 : nl ≤ 6) (hn : (p1 < 0 ∨ nI Fl ≤ p1) ∨ (p2 < 0 ∨ nI nl ≤ p2) ∨ ¬ rgI 400 p3) : f_X11_canAsk F m 50 p1 p2 p3 = some (0, m) := by
  rcases ix_or p1 (n := Fl) (by omega) with ⟨f, hf, rfl⟩ | hf
  · rcases ix_or p2 (n := nl) (by omega) with ⟨l, hl, rfl⟩ | hl
    · have hd : ¬ rgI 400 p3 := by
        rcases hn with (h | h) | (h | h) | h
        · exact absurd h (nI_pos (by omega))
        · exact absurd h (nI_ge hf (by omega))
        · exact absurd h (nI_pos (by omega))
        · exact absurd h (nI_ge hl (by omega))
        · exact h
      simp only [f_X11_canAsk, e_X11_isFlight, e_X11_isList, e_X11_isDay, hM, f3, b6, bx_in hf (show Fl < 2147483648 by omega), bx_in hl (show nl < 2147483648 by omega), hd, nx_eq, ck_true, br_true, br_false, bd_eq, de_eq, mN_sI_, mK_sI_, mL_sI_, mI_sI_ap, mJ_sI_, mR_sI_, mN_sJ_, mK_sJ_, mL_sJ_, mI_sJ_, mJ_sJ_ap, mR_sJ_, mN_sR_, mK_sR_, mL_sR_, mI_sR_, mJ_sR_, mR_sR_ap, Nat.reduceEqDiff, Nat.reduceAdd, ↓reduceIte, and_true, true_and, and_false, false_and, or_true, true_or, or_false, false_or, not_true_eq_false, not_false_eq_true, i10, i01, ii01, ii02, ii03, ii04, ii05, ii12, ii13, ii14, ii15, ii20, ii21, ii23, ii24, ii25, ii30, ii31, ii32, ii34, ii35, ii40, ii41, ii42, ii43, ii45, ii50, ii51, ii52, ii53, ii54, bi_z, Option.some.injEq, reduceCtorEq, Nat.reduceLeDiff]
    · simp only [f_X11_canAsk, e_X11_isFlight, e_X11_isList, hM, f3, b6, bx_in hf (show Fl < 2147483648 by omega), bx_out hl, nx_eq, ck_true, br_true, br_false, bd_eq, de_eq, mN_sI_, mK_sI_, mL_sI_, mI_sI_ap, mJ_sI_, mR_sI_, mN_sJ_, mK_sJ_, mL_sJ_, mI_sJ_, mJ_sJ_ap, mR_sJ_, mN_sR_, mK_sR_, mL_sR_, mI_sR_, mJ_sR_, mR_sR_ap, Nat.reduceEqDiff, Nat.reduceAdd, ↓reduceIte, and_true, true_and, and_false, false_and, or_true, true_or, or_false, false_or, not_true_eq_false, not_false_eq_true, i10, i01, ii01, ii02, ii03, ii04, ii05, ii12, ii13, ii14, ii15, ii20, ii21, ii23, ii24, ii25, ii30, ii31, ii32, ii34, ii35, ii40, ii41, ii42, ii43, ii45, ii50, ii51, ii52, ii53, ii54, bi_z, Option.some.injEq, reduceCtorEq, Nat.reduceLeDiff]
  · simp only [f_X11_canAsk, e_X11_isFlight, hM, f3, bx_out hf, nx_eq, ck_true, br_true, br_false, bd_eq, de_eq, mN_sI_, mK_sI_, mL_sI_, mI_sI_ap, mJ_sI_, mR_sI_, mN_sJ_, mK_sJ_, mL_sJ_, mI_sJ_, mJ_sJ_ap, mR_sJ_, mN_sR_, mK_sR_, mL_sR_, mI_sR_, mJ_sR_, mR_sR_ap, Nat.reduceEqDiff, Nat.reduceAdd, ↓reduceIte, and_true, true_and, and_false, false_and, or_true, true_or, or_false, false_or, not_true_eq_false, not_false_eq_true, i10, i01, ii01, ii02, ii03, ii04, ii05, ii12, ii13, ii14, ii15, ii20, ii21, ii23, ii24, ii25, ii30, ii31, ii32, ii34, ii35, ii40, ii41, ii42, ii43, ii45, ii50, ii51, ii52, ii53, ii54, bi_z, Option.some.injEq, reduceCtorEq, Nat.reduceLeDiff]
theorem sim_result (F : Nat) (hF : 1000 ≤ F) {c m : Mem} (h : Rel c m) (p1 p2 p3 : Int32) : Sim (f_X10_result F c 0 p1 p2 p3) (f_X11_result F m 50 p1 p2 p3) := by
  have hC := h.1
  have hM := h.2.1
  have h1 := h.thr 0
  obtain ⟨nw, nl, hbk⟩ := h1.2.2.2.2.2.2.1
  obtain ⟨L, N, hcl, Fl, fid, S, hfl⟩ := h1.2.2.2.2.2.2.2
  have hM1 := h1.2.1
  have f1 := hfl.1
  have f3 := hfl.2.2.1
  have b3 := hbk.2.2.1
  have b5 := hbk.2.2.2.2.1
  have b6 := hbk.2.2.2.2.2.1
  have refN : ((p1 < 0 ∨ nI Fl ≤ p1) ∨ (p2 < 0 ∨ nI nl ≤ p2) ∨ ¬ rgI 400 p3) → f_X11_result F m 50 p1 p2 p3 = some (-1, sI m 50 2 0) := by
    intro hn
    have e := e_askN F hM1 f3 b6 f1 b3 hn
    simp only [f_X11_result, hM, e, nx_eq, ck_true, br_true, br_false, bd_eq, de_eq, mN_sI_, mK_sI_, mL_sI_, mI_sI_ap, mJ_sI_, mR_sI_, mN_sJ_, mK_sJ_, mL_sJ_, mI_sJ_, mJ_sJ_ap, mR_sJ_, mN_sR_, mK_sR_, mL_sR_, mI_sR_, mJ_sR_, mR_sR_ap, Nat.reduceEqDiff, Nat.reduceAdd, ↓reduceIte, and_true, true_and, and_false, false_and, or_true, true_or, or_false, false_or, not_true_eq_false, not_false_eq_true, i10, i01, ii01, ii02, ii03, ii04, ii05, ii12, ii13, ii14, ii15, ii20, ii21, ii23, ii24, ii25, ii30, ii31, ii32, ii34, ii35, ii40, ii41, ii42, ii43, ii45, ii50, ii51, ii52, ii53, ii54, bi_z, Option.some.injEq, reduceCtorEq, Nat.reduceLeDiff]
  rcases ix_or p1 (n := Fl) (by omega) with ⟨f, hf, rfl⟩ | hf
  · rcases ix_or p2 (n := nl) (by omega) with ⟨l, hl, rfl⟩ | hl
    · by_cases hd : rgI 400 p3
      · obtain ⟨day, hday, rfl⟩ := rgI_rg (h := 400) (by decide) hd
        obtain ⟨hD, hCF, hMF⟩ := DCM hC hM1 hcl hfl hf
        obtain ⟨-, -, -, -, -, -, hRD, -⟩ := hfl.2.2.2.1 f hf
        obtain ⟨c', m', n, ln, e1, e2, fy, fr, hK⟩ := e_rank F hF (Or.inl rfl) hD hCF hMF hcl hbk hRD hl hday
        obtain ⟨r0, r1, r2, r3, r4, r5, r6, r7, r8⟩ := hK
        have hMF' := hMF.cg fr
        have hM' := hMF'.1
        have hC' := (fy.frK (Or.inl rfl)).shC hC
        have hN := hD.2.2.2.1
        have hM2 : shM (sI m' 50 62 (nI n)) := hM'.cg rfl rfl rfl
        obtain ⟨g, s1, s2⟩ := lp_shown F hM2 r1 (by rw [mI_sI_j (by decide)]; exact r3) (A := ln) (P := plN (sI m 50 2 0) f (S f) (zlast (sI m 50 2 0) f (mI c 19 l)) day ln) (K := fun i => ks (sI m 50 2 0) f (S f) (zlast (sI m 50 2 0) f (mI c 19 l)) day (ln i)) (fun i hi => by
          obtain ⟨a1, a2, a3, a4, a5, a6, a7, a8⟩ := r4 i hi
          refine ⟨by omega, by rw [mI_sI_o (by decide)]; exact a8, by rw [mI_sI_o (by decide)]; exact (r5 i hi).2, ?_⟩
          rw [mI_sI_o (by decide), (r8 _ a1).1, if_pos a2, a3]
          rfl) n 0 (mI (sI m' 50 62 (nI n)) 93) F (by omega) (by omega) (fun i hi => absurd hi (by omega))
        rw [wI_id] at s1
        have s1' : f_X11_result_b35 F 50 F (sI m' 50 62 (nI n)) (0 : Int32) = some (nI n, wI (sI m' 50 62 (nI n)) 93 g) := s1
        refine Sim.of (r := nI n) (c' := c') (m' := wI (sI m' 50 62 (nI n)) 93 g) ?_ ?_ (h1.wkT (fy.frK (Or.inl rfl)) ⟨n, r1, r2, by rw [mI_wI_o (by decide), mI_sI_e], fun k hk => ?_⟩ fr.1 fr.2.1 fr.2.2.1 (fun x x1 x2 => by rw [mI_wI_o (by omega), mI_sI_o (by omega)]; exact fr.2.2.2.1 x x1 (Or.inl x2)) (fun j j1 j2 => by rw [mI_wI_o (by decide), mI_sI_j j2]; exact fr.2.2.2.2.1 j j1) fr.2.2.2.2.2)
        · have b7 := bx_in hl (show nl < 2147483648 by omega)
          have k33 : mK c' 33 = 6 := by simp only [hC']
          simp only [f_X10_result, e_fA_in F hC hfl hf, e_X0_hasList, e_X10_isDay, hC, b5, b7, hd, e1, hC', f_X5_size, r2, nx_eq, ck_true, br_true, br_false, bd_eq, de_eq, mN_sI_, mK_sI_, mL_sI_, mI_sI_ap, mJ_sI_, mR_sI_, mN_sJ_, mK_sJ_, mL_sJ_, mI_sJ_, mJ_sJ_ap, mR_sJ_, mN_sR_, mK_sR_, mL_sR_, mI_sR_, mJ_sR_, mR_sR_ap, Nat.reduceEqDiff, Nat.reduceAdd, ↓reduceIte, and_true, true_and, and_false, false_and, or_true, true_or, or_false, false_or, not_true_eq_false, not_false_eq_true, i10, i01, ii01, ii02, ii03, ii04, ii05, ii12, ii13, ii14, ii15, ii20, ii21, ii23, ii24, ii25, ii30, ii31, ii32, ii34, ii35, ii40, ii41, ii42, ii43, ii45, ii50, ii51, ii52, ii53, ii54, bi_z, Option.some.injEq, reduceCtorEq, Nat.reduceLeDiff]
        · have eA := e_askY F hM1 f3 b6 f1 b3 hf hl hd
          simp only [f_X11_result, hM, hM1, eA, e2, hM', r3, s1', nx_eq, ck_true, br_true, br_false, bd_eq, de_eq, mN_sI_, mK_sI_, mL_sI_, mI_sI_ap, mJ_sI_, mR_sI_, mN_sJ_, mK_sJ_, mL_sJ_, mI_sJ_, mJ_sJ_ap, mR_sJ_, mN_sR_, mK_sR_, mL_sR_, mI_sR_, mJ_sR_, mR_sR_ap, Nat.reduceEqDiff, Nat.reduceAdd, ↓reduceIte, and_true, true_and, and_false, false_and, or_true, true_or, or_false, false_or, not_true_eq_false, not_false_eq_true, i10, i01, ii01, ii02, ii03, ii04, ii05, ii12, ii13, ii14, ii15, ii20, ii21, ii23, ii24, ii25, ii30, ii31, ii32, ii34, ii35, ii40, ii41, ii42, ii43, ii45, ii50, ii51, ii52, ii53, ii54, bi_z, Option.some.injEq, reduceCtorEq, Nat.reduceLeDiff]
        · rw [mI_wI_e]
          obtain ⟨t1, t2, t3⟩ := s2 k hk
          obtain ⟨a1, a2, a3, a4, a5, a6, a7, a8⟩ := r4 k hk
          rw [t1, t2, t3]
          exact ⟨a4, (r5 k hk).1, a5⟩
      · refine Sim.of (r := -1) (c' := c) (m' := sI m 50 2 0) ?_ (refN (Or.inr (Or.inr hd))) h1
        simp only [f_X10_result, e_fA_in F hC hfl hf, e_X0_hasList, e_X10_isDay, hC, b5, bx_in hl (show nl < 2147483648 by omega), hd, nx_eq, ck_true, br_true, br_false, bd_eq, de_eq, mN_sI_, mK_sI_, mL_sI_, mI_sI_ap, mJ_sI_, mR_sI_, mN_sJ_, mK_sJ_, mL_sJ_, mI_sJ_, mJ_sJ_ap, mR_sJ_, mN_sR_, mK_sR_, mL_sR_, mI_sR_, mJ_sR_, mR_sR_ap, Nat.reduceEqDiff, Nat.reduceAdd, ↓reduceIte, and_true, true_and, and_false, false_and, or_true, true_or, or_false, false_or, not_true_eq_false, not_false_eq_true, i10, i01, ii01, ii02, ii03, ii04, ii05, ii12, ii13, ii14, ii15, ii20, ii21, ii23, ii24, ii25, ii30, ii31, ii32, ii34, ii35, ii40, ii41, ii42, ii43, ii45, ii50, ii51, ii52, ii53, ii54, bi_z, Option.some.injEq, reduceCtorEq, Nat.reduceLeDiff]
    · refine Sim.of (r := -1) (c' := c) (m' := sI m 50 2 0) ?_ (refN (Or.inr (Or.inl hl))) h1
      simp only [f_X10_result, e_fA_in F hC hfl hf, e_X0_hasList, hC, b5, bx_out hl, nx_eq, ck_true, br_true, br_false, bd_eq, de_eq, mN_sI_, mK_sI_, mL_sI_, mI_sI_ap, mJ_sI_, mR_sI_, mN_sJ_, mK_sJ_, mL_sJ_, mI_sJ_, mJ_sJ_ap, mR_sJ_, mN_sR_, mK_sR_, mL_sR_, mI_sR_, mJ_sR_, mR_sR_ap, Nat.reduceEqDiff, Nat.reduceAdd, ↓reduceIte, and_true, true_and, and_false, false_and, or_true, true_or, or_false, false_or, not_true_eq_false, not_false_eq_true, i10, i01, ii01, ii02, ii03, ii04, ii05, ii12, ii13, ii14, ii15, ii20, ii21, ii23, ii24, ii25, ii30, ii31, ii32, ii34, ii35, ii40, ii41, ii42, ii43, ii45, ii50, ii51, ii52, ii53, ii54, bi_z, Option.some.injEq, reduceCtorEq, Nat.reduceLeDiff]
  · refine Sim.of (r := -1) (c' := c) (m' := sI m 50 2 0) ?_ (refN (Or.inl hf)) h1
    simp only [f_X10_result, e_fA_out F hC hfl hf, hC, nx_eq, ck_true, br_true, br_false, bd_eq, de_eq, mN_sI_, mK_sI_, mL_sI_, mI_sI_ap, mJ_sI_, mR_sI_, mN_sJ_, mK_sJ_, mL_sJ_, mI_sJ_, mJ_sJ_ap, mR_sJ_, mN_sR_, mK_sR_, mL_sR_, mI_sR_, mJ_sR_, mR_sR_ap, Nat.reduceEqDiff, Nat.reduceAdd, ↓reduceIte, and_true, true_and, and_false, false_and, or_true, true_or, or_false, false_or, not_true_eq_false, not_false_eq_true, i10, i01, ii01, ii02, ii03, ii04, ii05, ii12, ii13, ii14, ii15, ii20, ii21, ii23, ii24, ii25, ii30, ii31, ii32, ii34, ii35, ii40, ii41, ii42, ii43, ii45, ii50, ii51, ii52, ii53, ii54, bi_z, Option.some.injEq, reduceCtorEq, Nat.reduceLeDiff]
