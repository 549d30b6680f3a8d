/-! close -/
theorem lp_c94 (F : Nat) {m : Mem} (hM : shM m) {f l : Nat} (f6 : f < 6) (l6 : l < 6) : ∀ j k (g : Nat → Int64) M, k + j = 4 → j < M → (∀ i, i < k → g (4 * (6 * f + l) + i) = mJ m 95 i) → (∀ i, i < 4 * (6 * f + l) ∨ 4 * (6 * f + l) + 4 ≤ i → g i = mJ m 76 i) → ∃ g', f_X11_close_b94 F 50 M (wJ m 76 g) (nI f) (nI l) (nI k) = some (1, wJ m 76 g') ∧ (∀ i, i < 4 → g' (4 * (6 * f + l) + i) = mJ m 95 i) ∧ ∀ i, i < 4 * (6 * f + l) ∨ 4 * (6 * f + l) + 4 ≤ i → g' i = mJ m 76 i := by
  intro j
  induction j with
  | zero =>
    intro k g M hk hM2 h1 h2
    obtain ⟨M, rfl⟩ : ∃ x, M = x + 1 := ⟨M - 1, by omega⟩
    obtain rfl : k = 4 := by omega
    have q1 : (4 : Int32) ≤ nI 4 := nI_le (a := 4) (b := 4) (Nat.le_refl _) (by decide)
    refine ⟨g, ?_, h1, h2⟩
    show f_X11_close_b94_it F (f_X11_close_b94 F 50 M) 50 (wJ m 76 g) (nI f) (nI l) (nI 4) = _
    simp only [f_X11_close_b94_it, q1, nx_eq, ck_true, br_true, br_false, bd_eq, de_eq, mN_sI_, mK_sI_, mL_sI_, mI_sI_ap, mJ_sI_, mR_sI_, mN_sJ_, mK_sJ_, mL_sJ_, mI_sJ_, mJ_sJ_ap, mR_sJ_, mN_sR_, mK_sR_, mL_sR_, mI_sR_, mJ_sR_, mR_sR_ap, Nat.reduceEqDiff, Nat.reduceAdd, ↓reduceIte, and_true, true_and, and_false, false_and, or_true, true_or, or_false, false_or, not_true_eq_false, not_false_eq_true, i10, i01, ii01, ii02, ii03, ii04, ii05, ii12, ii13, ii14, ii15, ii20, ii21, ii23, ii24, ii25, ii30, ii31, ii32, ii34, ii35, ii40, ii41, ii42, ii43, ii45, ii50, ii51, ii52, ii53, ii54, bi_z, Option.some.injEq, reduceCtorEq, Nat.reduceLeDiff]
  | succ j ih =>
    intro k g M hk hM2 h1 h2
    obtain ⟨M, rfl⟩ : ∃ x, M = x + 1 := ⟨M - 1, by omega⟩
    have q1 : ¬ (4 : Int32) ≤ nI k := nI_ge (b := 4) (by omega) (by decide)
    have vk := vp_nI (show k < 4 by omega) (show 4 < 2147483648 by decide)
    have nk := nI_cl (show k < 2147483648 by omega)
    have v1 : vp_in (nI (4 * (6 * f + l) + k)) 144 := vp_nI (by omega) (by decide)
    have n1 : (nI (4 * (6 * f + l) + k)).toNatClampNeg = 4 * (6 * f + l) + k := nI_cl (by omega)
    have e95 : mJ (wJ m 76 g) 95 = mJ m 95 := mJ_wJ_o (by decide)
    obtain ⟨g', w1, w2⟩ := ih (k + 1) (va_up g (4 * (6 * f + l) + k) (mJ m 95 k)) M (by omega) (by omega) (fun i hi => by
      by_cases e : i = k
      · rw [e, va_up_self]
      · rw [va_up_ne _ _ (by omega)]; exact h1 i (by omega)) (fun i hi => by rw [va_up_ne _ _ (by omega)]; exact h2 i hi)
    refine ⟨g', ?_, w2⟩
    rw [← w1]
    show f_X11_close_b94_it F (f_X11_close_b94 F 50 M) 50 (wJ m 76 g) (nI f) (nI l) (nI k) = _
    simp only [f_X11_close_b94_it, q1, mK_wJ_, mL_wJ_, mR_wJ_, hM, vk, nk, i6, i4, v1, n1, e95, sJ_wJ, nI_1, nx_eq, ck_true, br_true, br_false, bd_eq, de_eq, mN_sI_, mK_sI_, mL_sI_, mI_sI_ap, mJ_sI_, mR_sI_, mN_sJ_, mK_sJ_, mL_sJ_, mI_sJ_, mJ_sJ_ap, mR_sJ_, mN_sR_, mK_sR_, mL_sR_, mI_sR_, mJ_sR_, mR_sR_ap, Nat.reduceEqDiff, Nat.reduceAdd, ↓reduceIte, and_true, true_and, and_false, false_and, or_true, true_or, or_false, false_or, not_true_eq_false, not_false_eq_true, i10, i01, ii01, ii02, ii03, ii04, ii05, ii12, ii13, ii14, ii15, ii20, ii21, ii23, ii24, ii25, ii30, ii31, ii32, ii34, ii35, ii40, ii41, ii42, ii43, ii45, ii50, ii51, ii52, ii53, ii54, bi_z, Option.some.injEq, reduceCtorEq, Nat.reduceLeDiff]
theorem lp_c53 (F : Nat) {m : Mem} (hM : shM m) {f l : Nat} (f6 : f < 6) (l6 : l < 6) : ∀ j k (g : Nat → Int64) M, k + j = 24 → j < M → (∀ i, i < k → g (144 * f + 24 * l + i) = mJ m 94 i) → (∀ i, i < 144 * f + 24 * l ∨ 144 * f + 24 * l + 24 ≤ i → g i = mJ m 75 i) → ∃ g', f_X11_close_b53 F 50 M (wJ m 75 g) (nI f) (nI l) (nI k) = f_X11_close_b94 F 50 F (wJ m 75 g') (nI f) (nI l) (0 : Int32) ∧ (∀ i, i < 24 → g' (144 * f + 24 * l + i) = mJ m 94 i) ∧ ∀ i, i < 144 * f + 24 * l ∨ 144 * f + 24 * l + 24 ≤ i → g' i = mJ m 75 i := by
  intro j
  induction j with
  | zero =>
    intro k g M hk hM2 h1 h2
    obtain ⟨M, rfl⟩ : ∃ x, M = x + 1 := ⟨M - 1, by omega⟩
    obtain rfl : k = 24 := by omega
    have q1 : (24 : Int32) ≤ nI 24 := nI_le (a := 24) (b := 24) (Nat.le_refl _) (by decide)
    refine ⟨g, ?_, h1, h2⟩
    show f_X11_close_b53_it F (f_X11_close_b53 F 50 M) 50 (wJ m 75 g) (nI f) (nI l) (nI 24) = _
    simp only [f_X11_close_b53_it, q1, nx_eq, ck_true, br_true, br_false, bd_eq, de_eq, mN_sI_, mK_sI_, mL_sI_, mI_sI_ap, mJ_sI_, mR_sI_, mN_sJ_, mK_sJ_, mL_sJ_, mI_sJ_, mJ_sJ_ap, mR_sJ_, mN_sR_, mK_sR_, mL_sR_, mI_sR_, mJ_sR_, mR_sR_ap, Nat.reduceEqDiff, Nat.reduceAdd, ↓reduceIte, and_true, true_and, and_false, false_and, or_true, true_or, or_false, false_or, not_true_eq_false, not_false_eq_true, i10, i01, ii01, ii02, ii03, ii04, ii05, ii12, ii13, ii14, ii15, ii20, ii21, ii23, ii24, ii25, ii30, ii31, ii32, ii34, ii35, ii40, ii41, ii42, ii43, ii45, ii50, ii51, ii52, ii53, ii54, bi_z, Option.some.injEq, reduceCtorEq, Nat.reduceLeDiff]
  | succ j ih =>
    intro k g M hk hM2 h1 h2
    obtain ⟨M, rfl⟩ : ∃ x, M = x + 1 := ⟨M - 1, by omega⟩
    have q1 : ¬ (24 : Int32) ≤ nI k := nI_ge (b := 24) (by omega) (by decide)
    have vk := vp_nI (show k < 24 by omega) (show 24 < 2147483648 by decide)
    have nk := nI_cl (show k < 2147483648 by omega)
    have v1 : vp_in (nI (144 * f + 24 * l + k)) 864 := vp_nI (by omega) (by decide)
    have n1 : (nI (144 * f + 24 * l + k)).toNatClampNeg = 144 * f + 24 * l + k := nI_cl (by omega)
    have e94 : mJ (wJ m 75 g) 94 = mJ m 94 := mJ_wJ_o (by decide)
    obtain ⟨g', w1, w2⟩ := ih (k + 1) (va_up g (144 * f + 24 * l + k) (mJ m 94 k)) M (by omega) (by omega) (fun i hi => by
      by_cases e : i = k
      · rw [e, va_up_self]
      · rw [va_up_ne _ _ (by omega)]; exact h1 i (by omega)) (fun i hi => by rw [va_up_ne _ _ (by omega)]; exact h2 i hi)
    refine ⟨g', ?_, w2⟩
    rw [← w1]
    show f_X11_close_b53_it F (f_X11_close_b53 F 50 M) 50 (wJ m 75 g) (nI f) (nI l) (nI k) = _
    simp only [f_X11_close_b53_it, q1, mK_wJ_, mL_wJ_, mR_wJ_, hM, vk, nk, i144, v1, n1, e94, sJ_wJ, nI_1, nx_eq, ck_true, br_true, br_false, bd_eq, de_eq, mN_sI_, mK_sI_, mL_sI_, mI_sI_ap, mJ_sI_, mR_sI_, mN_sJ_, mK_sJ_, mL_sJ_, mI_sJ_, mJ_sJ_ap, mR_sJ_, mN_sR_, mK_sR_, mL_sR_, mI_sR_, mJ_sR_, mR_sR_ap, Nat.reduceEqDiff, Nat.reduceAdd, ↓reduceIte, and_true, true_and, and_false, false_and, or_true, true_or, or_false, false_or, not_true_eq_false, not_false_eq_true, i10, i01, ii01, ii02, ii03, ii04, ii05, ii12, ii13, ii14, ii15, ii20, ii21, ii23, ii24, ii25, ii30, ii31, ii32, ii34, ii35, ii40, ii41, ii42, ii43, ii45, ii50, ii51, ii52, ii53, ii54, bi_z, Option.some.injEq, reduceCtorEq, Nat.reduceLeDiff]
/-- a flight's list has been closed -/
theorem Rel.close {c m c' m' : Mem} (h : Rel c m) {L N Fl f l : Nat} {fid S : Nat → Nat} (hcl : Rclub c m L N) (hfl : Rfls c m L N Fl fid S) (hf : f < Fl) (hl : l < 6) (hK : mK c' = mK c) (hL : mL c' = mL c) (hR : mR c' = mR c) (hN : mN c' = mN c) (oc : ∀ x, x ≠ 49 → x ≠ fid f + (13 + 4 * l) → x ≠ fid f + (15 + 4 * l) → x ≠ fid f + (16 + 4 * l) → x < 40 ∨ 47 ≤ x → mI c' x = mI c x) (oj : ∀ x, x < 40 ∨ 47 ≤ x → mJ c' x = mJ c x) (cz : mI c' (fid f + (13 + 4 * l)) 2 = 1)
    (mK' : mK m' = mK m) (mL' : mL m' = mL m) (mR' : mR m' = mR m) (om : ∀ x, 51 ≤ x → x ≤ 83 ∨ x = 93 → x ≠ 74 → mI m' x = mI m x) (om50 : ∀ j, j ≠ 60 → mI m' 50 j = mI m 50 j) (m74 : ∀ i, i ≠ 6 * f + l → mI m' 74 i = mI m 74 i) (m741 : mI m' 74 (6 * f + l) = 1) (m75 : ∀ i, i < 144 * f + 24 * l ∨ 144 * f + 24 * l + 24 ≤ i → mJ m' 75 i = mJ m 75 i) (m76 : ∀ i, i < 4 * (6 * f + l) ∨ 4 * (6 * f + l) + 4 ≤ i → mJ m' 76 i = mJ m 76 i) (hx : Rfix c' m' f (fid f) l) : Rel c' m' := by
  have hq : 97 ≤ fid f := ((hfl.2.2.2.1 f hf).2.2.2).1.1
  have lo : ∀ x, x < 40 → mI c' x = mI c x := fun x hx => oc x (by omega) (by omega) (by omega) (by omega) (Or.inl hx)
  obtain ⟨a1, a2, a3, a4, a5, ⟨n, a6⟩, ⟨nw, nl, a7⟩, -⟩ := h
  refine ⟨a1.cg hK hL hR, a2.cg mK' mL' mR', a3.cg hN (by rw [lo 0 (by decide)]), ?_, ?_, ⟨n, ?_⟩, ⟨nw, nl, ?_⟩, L, N, ?_, Fl, fid, va_up S f (S f), ?_⟩
  · exact a4.cg (fun x _ _ => lo x (by omega)) (om50 41 (by decide)) (om50 42 (by decide))
  · exact a5.cg (fun x _ _ => lo x (by omega)) (om 93 (by decide) (by decide) (by decide)) (om50 62 (by decide))
  · exact a6.cg (fun x _ _ => lo x (by omega)) (om 51 (by decide) (by decide) (by decide)) (om50 1 (by decide))
  · exact a7.cg (fun x _ _ => lo x (by omega)) (fun x _ _ => om x (by omega) (by omega) (by omega)) (om50 31 (by decide)) (om50 32 (by decide))
  · exact hcl.cg (fun x _ _ => lo x (by omega)) (fun x _ _ => om x (by omega) (by omega) (by omega)) (om50 3 (by decide)) (om50 6 (by decide))
  · obtain ⟨-, -, -, h1, h2, h3, h4, h5⟩ := hfl.2.2.2.1 f hf
    have cc : ∀ x, fid f ≤ x → x ≤ fid f + 12 → mI c' x = mI c x := fun x x1 x2 => oc x (by omega) (by omega) (by omega) (by omega) (by omega)
    refine hfl.upd hf ⟨h1.cg (cc _ (by omega) (by omega)) (fun x _ => by rw [om x (by omega) (by omega) (by omega)]), h2.cg (cc _ (by omega) (by omega)) (cc _ (by omega) (by omega)) (cc _ (by omega) (by omega)) (fun x l _ _ _ => by rw [om x (by omega) (by omega) (by omega)]), h3.cg h1.2.1 (fun x _ _ => cc x (by omega) (by omega)) (oj _ (by omega)) (oj _ (by omega)) (fun x k _ _ _ => by rw [om x (by omega) (by omega) (by omega)]), h4.cg (cc _ (by omega) (by omega)) (cc _ (by omega) (by omega)) (fun x b _ _ _ => by rw [om x (by omega) (by omega) (by omega)]), ?_⟩ (fun x x1 x2 => oc x (by omega) (by omega) (by omega) (by omega) (by omega)) (fun x x1 _ => oj x (by omega)) hK hL hR hN (by rw [lo 0 (by decide)]) (om50 10 (by decide)) (fun x i _ _ => by rw [om x (by omega) (by omega) (by omega)]) (fun x i _ _ _ => by rw [om x (by omega) (by omega) (by omega)]) (fun x i _ _ _ => by rw [om x (by omega) (by omega) (by omega)]) (fun x i _ _ _ => by rw [om x (by omega) (by omega) (by omega)]) (fun i _ => by rw [om 73 (by decide) (by decide) (by decide)]) (fun i hi => m74 i (by omega)) (fun i hi => m75 i (by omega)) (fun i hi => m76 i (by omega))
    intro t ht
    obtain ⟨d1, d2, d3, d4⟩ := h5 t ht
    refine ⟨fun e he => ?_, ?_, ?_, fun e => ?_⟩
    · rw [oc _ (by omega) (by omega) (by omega) (by omega) (by omega), om 73 (by decide) (by decide) (by decide)]; exact d1 e he
    · by_cases et : t = l
      · rw [et, cz, m741]
      · rw [oc _ (by omega) (by omega) (by omega) (by omega) (by omega), m74 _ (by omega)]; exact d2
    · by_cases et : t = l
      · rw [et, m741]; exact Or.inr rfl
      · rw [m74 _ (by omega)]; exact d3
    · by_cases et : t = l
      · rw [et]; exact hx
      · rw [m74 _ (by omega)] at e
        exact (d4 e).cg (oc _ (by omega) (by omega) (by omega) (by omega) (by omega)) (oc _ (by omega) (by omega) (by omega) (by omega) (by omega)) (fun b hb => m75 _ (by omega)) (fun k hk => m76 _ (by omega))
theorem sim_close (F : Nat) (hF : 1000 ≤ F) {c m : Mem} (h : Rel c m) (p1 p2 p3 : Int32) : Sim (f_X10_close F c 0 p1 p2 p3) (f_X11_close F m 50 p1 p2 p3) := by
  have hC := h.1
  have hM := h.2.1
  have h1 := h.thr 0
  obtain ⟨nw, nl, hbk⟩ := h1.2.2.2.2.2.2.1
  obtain ⟨L, N, hcl, Fl, fid, S, hfl⟩ := h1.2.2.2.2.2.2.2
  have hM1 := h1.2.1
  have f1 := hfl.1
  have f3 := hfl.2.2.1
  have b3 := hbk.2.2.1
  have b5 := hbk.2.2.2.2.1
  have b6 := hbk.2.2.2.2.2.1
  generalize hm1 : sI m 50 2 0 = m1 at *
  have refN : ((p1 < 0 ∨ nI Fl ≤ p1) ∨ (p2 < 0 ∨ nI nl ≤ p2) ∨ ¬ rgI 400 p3) → f_X11_close F m 50 p1 p2 p3 = some (0, m1) := by
    intro hn
    have e := e_askN F hM1 f3 b6 f1 b3 hn
    simp only [f_X11_close, hM, hm1, hM1, e, nx_eq, ck_true, br_true, br_false, bd_eq, de_eq, mN_sI_, mK_sI_, mL_sI_, mI_sI_ap, mJ_sI_, mR_sI_, mN_sJ_, mK_sJ_, mL_sJ_, mI_sJ_, mJ_sJ_ap, mR_sJ_, mN_sR_, mK_sR_, mL_sR_, mI_sR_, mJ_sR_, mR_sR_ap, Nat.reduceEqDiff, Nat.reduceAdd, ↓reduceIte, and_true, true_and, and_false, false_and, or_true, true_or, or_false, false_or, not_true_eq_false, not_false_eq_true, i10, i01, ii01, ii02, ii03, ii04, ii05, ii12, ii13, ii14, ii15, ii20, ii21, ii23, ii24, ii25, ii30, ii31, ii32, ii34, ii35, ii40, ii41, ii42, ii43, ii45, ii50, ii51, ii52, ii53, ii54, bi_z, Option.some.injEq, reduceCtorEq, Nat.reduceLeDiff]
  rcases ix_or p1 (n := Fl) (by omega) with ⟨f, hf, rfl⟩ | hf
  · rcases ix_or p2 (n := nl) (by omega) with ⟨l, hl, rfl⟩ | hl
    · by_cases hd : rgI 400 p3
      · have eA := e_askY F hM1 f3 b6 f1 b3 hf hl hd
        obtain ⟨day, hday, rfl⟩ := rgI_rg (h := 400) (by decide) hd
        obtain ⟨hap, hsF, -, hB, -, -, hRD, hRK⟩ := hfl.2.2.2.1 f hf
        have q97 := hB.1
        have l6 : l < 6 := by omega
        obtain ⟨u1, u2, u3, u4, u5, u6, u7, u8, u9, u10⟩ := hsF.purse l6
        obtain ⟨-, d2, d3, d4⟩ := hRK l l6
        have v6 : vp_in (nI (6 * f + l)) 36 := vp_nI (by omega) (by decide)
        have n6 : (nI (6 * f + l)).toNatClampNeg = 6 * f + l := nI_cl (by omega)
        by_cases hz : mI m1 74 (6 * f + l) = 0
        · obtain ⟨hD, hCF, hMF⟩ := DCM hC hM1 hcl hfl hf
          obtain ⟨st, hst⟩ := hRK.st l6
          have y1 : fid f + (15 + 4 * l) + 1 = fid f + (16 + 4 * l) := by omega
          obtain ⟨c', m', pz, T, pd, bk, x1, x2, x3, x4, x5, x6, x7, x8, x9, x10, x11, x12, x13⟩ := e_settle F hF (y := fid f + (15 + 4 * l)) hD hCF hMF hcl hbk hRD hl hday (Or.inr rfl) u7 (by rw [y1]; exact u8) (by rw [y1]; exact u9) (by rw [y1]; exact u10) hst
          obtain ⟨g1, g2, g3, g4, g5, g6⟩ := x3
          obtain ⟨o1, o2, o3, o4, o5, o6⟩ := x5
          rw [y1] at g5 o5
          have hM' := x4.shM hM1
          have hM2 : shM (sI m' 74 (6 * f + l) 1) := hM'.cg rfl rfl rfl
          have f6 : f < 6 := by omega
          obtain ⟨ga, w1, w2, w3⟩ := lp_c53 F hM2 f6 l6 24 0 (mJ (sI m' 74 (6 * f + l) 1) 75) F (by omega) (by omega) (fun i hi => absurd hi (by omega)) (fun _ _ => rfl)
          rw [wJ_id] at w1
          have w1' : f_X11_close_b53 F 50 F (sI m' 74 (6 * f + l) 1) (nI f) (nI l) (0 : Int32) = _ := w1
          have hM3 : shM (wJ (sI m' 74 (6 * f + l) 1) 75 ga) := hM'.cg rfl rfl rfl
          obtain ⟨gb, z1, z2, z3⟩ := lp_c94 F hM3 f6 l6 4 0 (mJ (wJ (sI m' 74 (6 * f + l) 1) 75 ga) 76) F (by omega) (by omega) (fun i hi => absurd hi (by omega)) (fun _ _ => rfl)
          rw [wJ_id] at z1
          have z1' : f_X11_close_b94 F 50 F (wJ (sI m' 74 (6 * f + l) 1) 75 ga) (nI f) (nI l) (0 : Int32) = _ := z1
          have J95 : mJ (wJ (sI m' 74 (6 * f + l) 1) 75 ga) 95 = mJ m' 95 := mJ_wJ_o (by decide)
          have J76 : mJ (wJ (sI m' 74 (6 * f + l) 1) 75 ga) 76 = mJ m' 76 := mJ_wJ_o (by decide)
          rw [J95] at z2
          rw [J76] at z3
          have w2' : ∀ i, i < 24 → ga (144 * f + 24 * l + i) = mJ m' 94 i := w2
          have w3' : ∀ i, i < 144 * f + 24 * l ∨ 144 * f + 24 * l + 24 ≤ i → ga i = mJ m' 75 i := w3
          obtain ⟨p0, p1, p2, p3⟩ := x8
          have hz' : mI c (fid f + (13 + 4 * l)) 2 = 0 := d2.trans hz
          have cf : ∀ x, x ≠ fid f + (13 + 4 * l) → mI (sI c' (fid f + (13 + 4 * l)) 2 1) x = mI c' x := fun x hx => mI_sI_o hx
          refine Sim.of (r := 1) (c' := sI c' (fid f + (13 + 4 * l)) 2 1) (m' := wJ (wJ (sI m' 74 (6 * f + l) 1) 75 ga) 76 gb) ?_ ?_ (h1.close hcl hfl hf l6 g1 g2 g3 g4 (fun x a1 a2 a3 a4 a5 => by rw [cf x a2]; exact g5 x a1 a3 a4 a5) g6 mI_sI_e x4.1 x4.2.1 x4.2.2.1 (fun x a1 a2 a3 => by show mI (sI m' 74 (6 * f + l) 1) x = _; rw [mI_sI_o a3]; exact x4.2.2.2.1 x a1 a2) (fun j hj => by show mI (sI m' 74 (6 * f + l) 1) 50 j = _; rw [mI_sI_o (by decide)]; exact x4.2.2.2.2.1 j hj) (fun i hi => by show mI (sI m' 74 (6 * f + l) 1) 74 i = _; rw [mI_sI_j hi, x4.2.2.2.1 74 (by decide) (by decide)]) mI_sI_e (fun i hi => by rw [mJ_wJ_o (by decide), mJ_wJ_e, w3' i hi, x4.2.2.2.2.2 75 (by decide) (by decide)]) (fun i hi => by rw [mJ_wJ_e, z3 i hi, x4.2.2.2.2.2 76 (by decide) (by decide)]) ⟨fun b hb => ?_, ?_, ?_, ?_, ?_⟩)
          · have a1 : mK c' (fid f + (13 + 4 * l)) = 5 := by rw [g1]; exact u2
            simp only [f_X10_close, hC, e_fA_in F hC hfl hf, e_pA_in F hC hfl hf b5 hl b3, e_X10_isDay, hd, u2, hz', u6, x1, a1, nx_eq, ck_true, br_true, br_false, bd_eq, de_eq, mN_sI_, mK_sI_, mL_sI_, mI_sI_ap, mJ_sI_, mR_sI_, mN_sJ_, mK_sJ_, mL_sJ_, mI_sJ_, mJ_sJ_ap, mR_sJ_, mN_sR_, mK_sR_, mL_sR_, mI_sR_, mJ_sR_, mR_sR_ap, Nat.reduceEqDiff, Nat.reduceAdd, ↓reduceIte, and_true, true_and, and_false, false_and, or_true, true_or, or_false, false_or, not_true_eq_false, not_false_eq_true, i10, i01, ii01, ii02, ii03, ii04, ii05, ii12, ii13, ii14, ii15, ii20, ii21, ii23, ii24, ii25, ii30, ii31, ii32, ii34, ii35, ii40, ii41, ii42, ii43, ii45, ii50, ii51, ii52, ii53, ii54, bi_z, Option.some.injEq, reduceCtorEq, Nat.reduceLeDiff]
          · simp only [f_X11_close, hM, hm1, hM1, eA, i6, v6, n6, hz, x2, hM', vp_nar_b1, w1', z1', nx_eq, ck_true, br_true, br_false, bd_eq, de_eq, mN_sI_, mK_sI_, mL_sI_, mI_sI_ap, mJ_sI_, mR_sI_, mN_sJ_, mK_sJ_, mL_sJ_, mI_sJ_, mJ_sJ_ap, mR_sJ_, mN_sR_, mK_sR_, mL_sR_, mI_sR_, mJ_sR_, mR_sR_ap, Nat.reduceEqDiff, Nat.reduceAdd, ↓reduceIte, and_true, true_and, and_false, false_and, or_true, true_or, or_false, false_or, not_true_eq_false, not_false_eq_true, i10, i01, ii01, ii02, ii03, ii04, ii05, ii12, ii13, ii14, ii15, ii20, ii21, ii23, ii24, ii25, ii30, ii31, ii32, ii34, ii35, ii40, ii41, ii42, ii43, ii45, ii50, ii51, ii52, ii53, ii54, bi_z, Option.some.injEq, reduceCtorEq, Nat.reduceLeDiff]
          · rw [mJ_wJ_o (by decide), mJ_wJ_e, w2' b hb, p0 b hb, cf _ (by omega), o5 b hb]
            exact lN_of (pz b) (by have := x10 b; omega)
          · have := z2 0 (by decide)
            rw [Nat.add_zero] at this
            rw [mJ_wJ_e, this, p1, cf _ (by omega), x6]
            exact lN_of T (by omega)
          · rw [mJ_wJ_e, z2 1 (by decide), p2, cf _ (by omega), o6]
            exact lN_of pd (by omega)
          · rw [mJ_wJ_e, z2 2 (by decide), x9, cf _ (by omega), x6, o6]
            exact sub64 (by omega) (by omega)
          · rw [mJ_wJ_e, z2 3 (by decide), p3, cf _ (by omega), x7]
            exact lN_of bk (by omega)
        · have hz' : ¬ mI c (fid f + (13 + 4 * l)) 2 = 0 := by rw [d2]; exact hz
          refine Sim.of (r := 0) (c' := c) (m' := m1) ?_ ?_ h1
          · simp only [f_X10_close, hC, e_fA_in F hC hfl hf, e_pA_in F hC hfl hf b5 hl b3, e_X10_isDay, hd, u2, hz', nx_eq, ck_true, br_true, br_false, bd_eq, de_eq, mN_sI_, mK_sI_, mL_sI_, mI_sI_ap, mJ_sI_, mR_sI_, mN_sJ_, mK_sJ_, mL_sJ_, mI_sJ_, mJ_sJ_ap, mR_sJ_, mN_sR_, mK_sR_, mL_sR_, mI_sR_, mJ_sR_, mR_sR_ap, Nat.reduceEqDiff, Nat.reduceAdd, ↓reduceIte, and_true, true_and, and_false, false_and, or_true, true_or, or_false, false_or, not_true_eq_false, not_false_eq_true, i10, i01, ii01, ii02, ii03, ii04, ii05, ii12, ii13, ii14, ii15, ii20, ii21, ii23, ii24, ii25, ii30, ii31, ii32, ii34, ii35, ii40, ii41, ii42, ii43, ii45, ii50, ii51, ii52, ii53, ii54, bi_z, Option.some.injEq, reduceCtorEq, Nat.reduceLeDiff]
          · simp only [f_X11_close, hM, hm1, hM1, eA, i6, v6, n6, hz, nx_eq, ck_true, br_true, br_false, bd_eq, de_eq, mN_sI_, mK_sI_, mL_sI_, mI_sI_ap, mJ_sI_, mR_sI_, mN_sJ_, mK_sJ_, mL_sJ_, mI_sJ_, mJ_sJ_ap, mR_sJ_, mN_sR_, mK_sR_, mL_sR_, mI_sR_, mJ_sR_, mR_sR_ap, Nat.reduceEqDiff, Nat.reduceAdd, ↓reduceIte, and_true, true_and, and_false, false_and, or_true, true_or, or_false, false_or, not_true_eq_false, not_false_eq_true, i10, i01, ii01, ii02, ii03, ii04, ii05, ii12, ii13, ii14, ii15, ii20, ii21, ii23, ii24, ii25, ii30, ii31, ii32, ii34, ii35, ii40, ii41, ii42, ii43, ii45, ii50, ii51, ii52, ii53, ii54, bi_z, Option.some.injEq, reduceCtorEq, Nat.reduceLeDiff]
      · refine Sim.of (r := 0) (c' := c) (m' := m1) ?_ (refN (Or.inr (Or.inr hd))) h1
        simp only [f_X10_close, hC, e_fA_in F hC hfl hf, e_pA_in F hC hfl hf b5 hl b3, e_X10_isDay, hd, nx_eq, ck_true, br_true, br_false, bd_eq, de_eq, mN_sI_, mK_sI_, mL_sI_, mI_sI_ap, mJ_sI_, mR_sI_, mN_sJ_, mK_sJ_, mL_sJ_, mI_sJ_, mJ_sJ_ap, mR_sJ_, mN_sR_, mK_sR_, mL_sR_, mI_sR_, mJ_sR_, mR_sR_ap, Nat.reduceEqDiff, Nat.reduceAdd, ↓reduceIte, and_true, true_and, and_false, false_and, or_true, true_or, or_false, false_or, not_true_eq_false, not_false_eq_true, i10, i01, ii01, ii02, ii03, ii04, ii05, ii12, ii13, ii14, ii15, ii20, ii21, ii23, ii24, ii25, ii30, ii31, ii32, ii34, ii35, ii40, ii41, ii42, ii43, ii45, ii50, ii51, ii52, ii53, ii54, bi_z, Option.some.injEq, reduceCtorEq, Nat.reduceLeDiff]
    · refine Sim.of (r := 0) (c' := c) (m' := m1) ?_ (refN (Or.inr (Or.inl hl))) h1
      simp only [f_X10_close, hC, e_fA_in F hC hfl hf, e_pA_outL F hC hfl hf b5 hl, nx_eq, ck_true, br_true, br_false, bd_eq, de_eq, mN_sI_, mK_sI_, mL_sI_, mI_sI_ap, mJ_sI_, mR_sI_, mN_sJ_, mK_sJ_, mL_sJ_, mI_sJ_, mJ_sJ_ap, mR_sJ_, mN_sR_, mK_sR_, mL_sR_, mI_sR_, mJ_sR_, mR_sR_ap, Nat.reduceEqDiff, Nat.reduceAdd, ↓reduceIte, and_true, true_and, and_false, false_and, or_true, true_or, or_false, false_or, not_true_eq_false, not_false_eq_true, i10, i01, ii01, ii02, ii03, ii04, ii05, ii12, ii13, ii14, ii15, ii20, ii21, ii23, ii24, ii25, ii30, ii31, ii32, ii34, ii35, ii40, ii41, ii42, ii43, ii45, ii50, ii51, ii52, ii53, ii54, bi_z, Option.some.injEq, reduceCtorEq, Nat.reduceLeDiff]
  · refine Sim.of (r := 0) (c' := c) (m' := m1) ?_ (refN (Or.inl hf)) h1
    simp only [f_X10_close, hC, e_fA_out F hC hfl hf, e_pA_outF F hC hfl hf, nx_eq, ck_true, br_true, br_false, bd_eq, de_eq, mN_sI_, mK_sI_, mL_sI_, mI_sI_ap, mJ_sI_, mR_sI_, mN_sJ_, mK_sJ_, mL_sJ_, mI_sJ_, mJ_sJ_ap, mR_sJ_, mN_sR_, mK_sR_, mL_sR_, mI_sR_, mJ_sR_, mR_sR_ap, Nat.reduceEqDiff, Nat.reduceAdd, ↓reduceIte, and_true, true_and, and_false, false_and, or_true, true_or, or_false, false_or, not_true_eq_false, not_false_eq_true, i10, i01, ii01, ii02, ii03, ii04, ii05, ii12, ii13, ii14, ii15, ii20, ii21, ii23, ii24, ii25, ii30, ii31, ii32, ii34, ii35, ii40, ii41, ii42, ii43, ii45, ii50, ii51, ii52, ii53, ii54, bi_z, Option.some.injEq, reduceCtorEq, Nat.reduceLeDiff]
