/-! the reference's shares -/
def frV (m m' : Mem) : Prop := mK m' = mK m ∧ mL m' = mL m ∧ mR m' = mR m ∧ mI m' = mI m ∧ ∀ x, x ≠ 88 → x ≠ 89 → x ≠ 94 → x ≠ 95 → mJ m' x = mJ m x
theorem frV.rf (m : Mem) : frV m m := ⟨rfl, rfl, rfl, rfl, fun _ _ _ _ _ => rfl⟩
theorem frV.tr {a b c : Mem} (h : frV a b) (g : frV b c) : frV a c := ⟨g.1.trans h.1, g.2.1.trans h.2.1, g.2.2.1.trans h.2.2.1, g.2.2.2.1.trans h.2.2.2.1, fun x h1 h2 h3 h4 => (g.2.2.2.2 x h1 h2 h3 h4).trans (h.2.2.2.2 x h1 h2 h3 h4)⟩
theorem frV.frR {m m' : Mem} (h : frV m m') : frR m m' := ⟨h.1, h.2.1, h.2.2.1, fun x _ _ => by rw [h.2.2.2.1], fun j _ => by rw [h.2.2.2.1], fun x h1 h2 => h.2.2.2.2 x (by omega) (by omega) (by omega) (by omega)⟩
theorem frV.sJ {m : Mem} {a j : Nat} {v : Int64} (h : a = 94 ∨ a = 95) : frV m (sJ m a j v) := ⟨rfl, rfl, rfl, rfl, fun x _ _ h3 h4 => mJ_sJ_o (by omega)⟩
theorem frL.frV {m m' : Mem} (h : frL m m') : frV m m' := ⟨h.2.1, h.2.2.1, h.2.2.2.2.1, h.2.2.2.1, fun x h1 h2 _ _ => h.2.2.2.2.2 x h1 h2⟩
theorem BST.cv {d m m' : Mem} {f S N last day : Nat} (h : BST d m f S N last day) (g : frV m m') : BST d m' f S N last day := by
  intro b hb
  rw [g.2.2.2.1, g.2.2.2.2 86 (by decide) (by decide) (by decide) (by decide), g.2.2.2.2 87 (by decide) (by decide) (by decide) (by decide)]
  exact h b hb
/-- what the reference's prizes and sums hold -/
def PM (m : Mem) (pz : Nat → Nat) (T pd bk : Nat) : Prop := (∀ b, b < 24 → mJ m 94 b = lN (pz b)) ∧ mJ m 95 0 = lN T ∧ mJ m 95 1 = lN pd ∧ mJ m 95 3 = lN bk
theorem PM.fl {m m' : Mem} {pz : Nat → Nat} {T pd bk : Nat} (h : PM m pz T pd bk) (g : frL m m') : PM m' pz T pd bk := by
  obtain ⟨a, b, c, e⟩ := h
  unfold PM
  rw [g.2.2.2.2.2 94 (by decide) (by decide), g.2.2.2.2.2 95 (by decide) (by decide)]
  exact ⟨a, b, c, e⟩
theorem y01 : (0 : Int32).toNatClampNeg = 0 ∧ (1 : Int32).toNatClampNeg = 1 ∧ (2 : Int32).toNatClampNeg = 2 ∧ (3 : Int32).toNatClampNeg = 3 := ⟨nI_cl (n := 0) (by decide), nI_cl (n := 1) (by decide), nI_cl (n := 2) (by decide), nI_cl (n := 3) (by decide)⟩
theorem w01 : vp_in (0 : Int32) 4 ∧ vp_in (1 : Int32) 4 ∧ vp_in (2 : Int32) 4 ∧ vp_in (3 : Int32) 4 := ⟨vp_nI (n := 0) (by decide) (by decide), vp_nI (n := 1) (by decide) (by decide), vp_nI (n := 2) (by decide) (by decide), vp_nI (n := 3) (by decide) (by decide)⟩
theorem lp_b33 (F : Nat) {c : Mem} {f q l day : Nat} {st : Nat → Nat} {G : Nat → Prop} (f6 : f < 6) (l6 : l < 6) (hd : day ≤ 400) (hst : ∀ b, b < 24 → st b ≤ 10000) (hG : ∀ b, b < 24 → (nI day < mI c (q + 11) b ↔ ¬ G b)) :
    ∀ j k M m, k + j = 24 → j < M → shM m → RfD c m f q → (∀ b, b < 24 → mI m 73 (144 * f + 24 * l + b) = nI (st b)) → (∀ b, b < k → mJ m 94 b = lN 0) → mJ m 95 0 = lN (gs (fun b => ¬ G b) st k) → mJ m 95 1 = lN 0 → mJ m 95 3 = lN (gs G st k) →
      ∃ m', f_X11_work_b33 F 50 M m (nI f) (nI l) (nI day) (nI k) = f_X11_work_b118 F 50 F m' (nI f) (nI l) (0 : Int32) (0 : Int32) ∧ frV m m' ∧ PM m' (fun _ => 0) (gs (fun b => ¬ G b) st 24) 0 (gs G st 24) := by
  intro j
  induction j with
  | zero =>
    intro k M m hk hM2 hM hRD hs h94 e0 e1 e3
    obtain ⟨M, rfl⟩ : ∃ x, M = x + 1 := ⟨M - 1, by omega⟩
    obtain rfl : k = 24 := by omega
    have q1 : (24 : Int32) ≤ nI 24 := nI_le (a := 24) (b := 24) (Nat.le_refl _) (by decide)
    refine ⟨m, ?_, frV.rf m, h94, e0, e1, e3⟩
    show f_X11_work_b33_it F (f_X11_work_b33 F 50 M) 50 m (nI f) (nI l) (nI day) (nI 24) = _
    simp only [f_X11_work_b33_it, q1, nx_eq, ck_true, br_true, br_false, bd_eq, de_eq, mN_sI_, mK_sI_, mL_sI_, mI_sI_ap, mJ_sI_, mR_sI_, mN_sJ_, mK_sJ_, mL_sJ_, mI_sJ_, mJ_sJ_ap, mR_sJ_, mN_sR_, mK_sR_, mL_sR_, mI_sR_, mJ_sR_, mR_sR_ap, Nat.reduceEqDiff, Nat.reduceAdd, ↓reduceIte, and_true, true_and, and_false, false_and, or_true, true_or, or_false, false_or, not_true_eq_false, not_false_eq_true, i10, i01, ii01, ii02, ii03, ii04, ii05, ii12, ii13, ii14, ii15, ii20, ii21, ii23, ii24, ii25, ii30, ii31, ii32, ii34, ii35, ii40, ii41, ii42, ii43, ii45, ii50, ii51, ii52, ii53, ii54, bi_z, Option.some.injEq, reduceCtorEq, Nat.reduceLeDiff]
  | succ j ih =>
    intro k M m hk hM2 hM hRD hs h94 e0 e1 e3
    obtain ⟨M, rfl⟩ : ∃ x, M = x + 1 := ⟨M - 1, by omega⟩
    have hk24 : k < 24 := by omega
    have q1 : ¬ (24 : Int32) ≤ nI k := nI_ge (b := 24) hk24 (by decide)
    have vk := vp_nI hk24 (show 24 < 2147483648 by decide)
    have nk := nI_cl (show k < 2147483648 by omega)
    have vs := vp_nI (show 144 * f + 24 * l + k < 864 by omega) (show 864 < 2147483648 by decide)
    have ns := nI_cl (show 144 * f + 24 * l + k < 2147483648 by omega)
    have hs1 := hs k hk24
    have hb := hst k hk24
    have es : (nI (st k)).toInt64 = lN (st k) := nI_l (by omega)
    have hM1 : shM (sJ m 94 k 0) := hM
    have hRD1 : RfD c (sJ m 94 k 0) f q := hRD
    have eG := e_isGone F hM1 f6 hk24 hd hRD1
    have n95 : ¬ (95 : Nat) = 94 := by decide
    obtain ⟨y0, y1, y2, y3⟩ := y01
    obtain ⟨w0, w1, w2, w3⟩ := w01
    have R27 : mR (sJ m 94 k 0) 50 27 = some 73 := by simp only [hM1]
    have go : ∀ (t : Nat) (v : Int64), t = 0 ∨ t = 3 → mJ (sJ (sJ m 94 k 0) 95 t v) 95 0 = lN (gs (fun b => ¬ G b) st (k + 1)) → mJ (sJ (sJ m 94 k 0) 95 t v) 95 3 = lN (gs G st (k + 1)) → ∃ m', f_X11_work_b33 F 50 M (sJ (sJ m 94 k 0) 95 t v) (nI f) (nI l) (nI day) (nI (k + 1)) = f_X11_work_b118 F 50 F m' (nI f) (nI l) (0 : Int32) (0 : Int32) ∧ frV m m' ∧ PM m' (fun _ => 0) (gs (fun b => ¬ G b) st 24) 0 (gs G st 24) := by
      intro t v ht g0 g3
      obtain ⟨m', a1, a2, a3⟩ := ih (k + 1) M (sJ (sJ m 94 k 0) 95 t v) (by omega) (by omega) hM hRD hs (fun b hb => by
        rw [mJ_sJ_o (by decide)]
        by_cases e : b = k
        · rw [e, mJ_sJ_e]; rfl
        · rw [mJ_sJ_j e]; exact h94 b (by omega)) g0 (by rw [mJ_sJ_j (by omega), mJ_sJ_o (by decide)]; exact e1) g3
      exact ⟨m', a1, ((frV.sJ (Or.inl rfl)).tr (frV.sJ (Or.inr rfl))).tr a2, a3⟩
    by_cases e : G k
    · have h2 : ¬ nI day < mI c (q + 11) k := fun z => ((hG k hk24).mp z) e
      rw [bi_t h2] at eG
      obtain ⟨m', a1, a2⟩ := go 3 (lN (gs G st k + st k)) (Or.inr rfl) (by rw [mJ_sJ_j (by decide), mJ_sJ_o (by decide), gs_n (fun z => z e)]; exact e0) (by rw [mJ_sJ_e, gs_y e])
      refine ⟨m', ?_, a2⟩
      show f_X11_work_b33_it F (f_X11_work_b33 F 50 M) 50 m (nI f) (nI l) (nI day) (nI k) = _
      simp only [f_X11_work_b33_it, f_X11_work_b106, q1, hM, vk, nk, i144, vs, ns, hs1, es, eG, w3, y3, n95, e3, lN_add, nI_1, a1, nx_eq, ck_true, br_true, br_false, bd_eq, de_eq, mN_sI_, mK_sI_, mL_sI_, mI_sI_ap, mJ_sI_, mR_sI_, mN_sJ_, mK_sJ_, mL_sJ_, mI_sJ_, mJ_sJ_ap, mR_sJ_, mN_sR_, mK_sR_, mL_sR_, mI_sR_, mJ_sR_, mR_sR_ap, Nat.reduceEqDiff, Nat.reduceAdd, ↓reduceIte, and_true, true_and, and_false, false_and, or_true, true_or, or_false, false_or, not_true_eq_false, not_false_eq_true, i10, i01, ii01, ii02, ii03, ii04, ii05, ii12, ii13, ii14, ii15, ii20, ii21, ii23, ii24, ii25, ii30, ii31, ii32, ii34, ii35, ii40, ii41, ii42, ii43, ii45, ii50, ii51, ii52, ii53, ii54, bi_z, Option.some.injEq, reduceCtorEq, Nat.reduceLeDiff]
    · have h2 : nI day < mI c (q + 11) k := (hG k hk24).mpr e
      rw [bi_f (fun z => z h2)] at eG
      obtain ⟨m', a1, a2⟩ := go 0 (lN (gs (fun b => ¬ G b) st k + st k)) (Or.inl rfl) (by rw [mJ_sJ_e, gs_y e]) (by rw [mJ_sJ_j (by decide), mJ_sJ_o (by decide), gs_n e]; exact e3)
      refine ⟨m', ?_, a2⟩
      show f_X11_work_b33_it F (f_X11_work_b33 F 50 M) 50 m (nI f) (nI l) (nI day) (nI k) = _
      simp only [f_X11_work_b33_it, f_X11_work_b106, q1, hM, vk, nk, i144, vs, ns, hs1, es, eG, w0, y0, n95, e0, lN_add, nI_1, a1, nx_eq, ck_true, br_true, br_false, bd_eq, de_eq, mN_sI_, mK_sI_, mL_sI_, mI_sI_ap, mJ_sI_, mR_sI_, mN_sJ_, mK_sJ_, mL_sJ_, mI_sJ_, mJ_sJ_ap, mR_sJ_, mN_sR_, mK_sR_, mL_sR_, mI_sR_, mJ_sR_, mR_sR_ap, Nat.reduceEqDiff, Nat.reduceAdd, ↓reduceIte, and_true, true_and, and_false, false_and, or_true, true_or, or_false, false_or, not_true_eq_false, not_false_eq_true, i10, i01, ii01, ii02, ii03, ii04, ii05, ii12, ii13, ii14, ii15, ii20, ii21, ii23, ii24, ii25, ii30, ii31, ii32, ii34, ii35, ii40, ii41, ii42, ii43, ii45, ii50, ii51, ii52, ii53, ii54, bi_z, Option.some.injEq, reduceCtorEq, Nat.reduceLeDiff]
theorem lp_b10 (F : Nat) {m : Mem} (hM : shM m) (p1 p2 p3 : Int32) : ∀ j k (g : Nat → Int64) M, k + j = 4 → j < M → (∀ i, i < k → g i = lN 0) → ∃ g', f_X11_work_b10 F 50 M (wJ m 95 g) p1 p2 p3 (nI k) = f_X11_work_b33 F 50 F (wJ m 95 g') p1 p2 p3 (0 : Int32) ∧ ∀ i, i < 4 → g' i = lN 0 := by
  intro j
  induction j with
  | zero =>
    intro k g M hk hM2 hg
    obtain ⟨M, rfl⟩ : ∃ x, M = x + 1 := ⟨M - 1, by omega⟩
    obtain rfl : k = 4 := by omega
    have q1 : (4 : Int32) ≤ nI 4 := nI_le (a := 4) (b := 4) (Nat.le_refl _) (by decide)
    refine ⟨g, ?_, hg⟩
    show f_X11_work_b10_it F (f_X11_work_b10 F 50 M) 50 (wJ m 95 g) p1 p2 p3 (nI 4) = _
    simp only [f_X11_work_b10_it, q1, nx_eq, ck_true, br_true, br_false, bd_eq, de_eq, mN_sI_, mK_sI_, mL_sI_, mI_sI_ap, mJ_sI_, mR_sI_, mN_sJ_, mK_sJ_, mL_sJ_, mI_sJ_, mJ_sJ_ap, mR_sJ_, mN_sR_, mK_sR_, mL_sR_, mI_sR_, mJ_sR_, mR_sR_ap, Nat.reduceEqDiff, Nat.reduceAdd, ↓reduceIte, and_true, true_and, and_false, false_and, or_true, true_or, or_false, false_or, not_true_eq_false, not_false_eq_true, i10, i01, ii01, ii02, ii03, ii04, ii05, ii12, ii13, ii14, ii15, ii20, ii21, ii23, ii24, ii25, ii30, ii31, ii32, ii34, ii35, ii40, ii41, ii42, ii43, ii45, ii50, ii51, ii52, ii53, ii54, bi_z, Option.some.injEq, reduceCtorEq, Nat.reduceLeDiff]
  | succ j ih =>
    intro k g M hk hM2 hg
    obtain ⟨M, rfl⟩ : ∃ x, M = x + 1 := ⟨M - 1, by omega⟩
    have q1 : ¬ (4 : Int32) ≤ nI k := nI_ge (b := 4) (by omega) (by decide)
    have vk := vp_nI (show k < 4 by omega) (show 4 < 2147483648 by decide)
    have nk := nI_cl (show k < 2147483648 by omega)
    obtain ⟨g', w1, w2⟩ := ih (k + 1) (va_up g k 0) M (by omega) (by omega) (fun i hi => by
      by_cases e : i = k
      · rw [e, va_up_self]; rfl
      · rw [va_up_ne _ _ e]; exact hg i (by omega))
    refine ⟨g', ?_, w2⟩
    rw [← w1]
    show f_X11_work_b10_it F (f_X11_work_b10 F 50 M) 50 (wJ m 95 g) p1 p2 p3 (nI k) = _
    simp only [f_X11_work_b10_it, q1, mK_wJ_, mL_wJ_, mR_wJ_, hM, vk, nk, sJ_wJ, nI_1, nx_eq, ck_true, br_true, br_false, bd_eq, de_eq, mN_sI_, mK_sI_, mL_sI_, mI_sI_ap, mJ_sI_, mR_sI_, mN_sJ_, mK_sJ_, mL_sJ_, mI_sJ_, mJ_sJ_ap, mR_sJ_, mN_sR_, mK_sR_, mL_sR_, mI_sR_, mJ_sR_, mR_sR_ap, Nat.reduceEqDiff, Nat.reduceAdd, ↓reduceIte, and_true, true_and, and_false, false_and, or_true, true_or, or_false, false_or, not_true_eq_false, not_false_eq_true, i10, i01, ii01, ii02, ii03, ii04, ii05, ii12, ii13, ii14, ii15, ii20, ii21, ii23, ii24, ii25, ii30, ii31, ii32, ii34, ii35, ii40, ii41, ii42, ii43, ii45, ii50, ii51, ii52, ii53, ii54, bi_z, Option.some.injEq, reduceCtorEq, Nat.reduceLeDiff]
theorem lp_b118 (F : Nat) {m : Mem} (hM : shM m) {f l n nw : Nat} {st A : Nat → Nat} (f6 : f < 6) (l6 : l < 6) (hw : nw ≤ 1) (h31 : mI m 50 31 = nI nw) (hn : n ≤ 24) (m6 : mI m 50 60 = nI n) (hst : ∀ b, b < 24 → st b ≤ 10000 ∧ mI m 73 (144 * f + 24 * l + b) = nI (st b)) (hA : ∀ i, i < n → A i < 24 ∧ mI m 91 i = nI (A i)) :
    ∀ j k (g : Nat → Int32) M, k + j = n → j < M → (∀ i, i < (kp st A k).1 → g i = nI (A ((kp st A k).2 i))) → ∃ g', f_X11_work_b118 F 50 M (wI m 96 g) (nI f) (nI l) (nI (kp st A k).1) (nI k) = f_X11_work_b195 F 50 F (wI m 96 g') (nI f) (nI l) (nI (kp st A n).1) (mI m 79 (6 * nw + l)) (0 : Int32) ∧ ∀ i, i < (kp st A n).1 → g' i = nI (A ((kp st A n).2 i)) := by
  intro j
  induction j with
  | zero =>
    intro k g M hk hM2 hg
    obtain ⟨M, rfl⟩ : ∃ x, M = x + 1 := ⟨M - 1, by omega⟩
    obtain rfl : k = n := by omega
    have q1 : nI k ≤ nI k := nI_le (Nat.le_refl _) (by omega)
    have vX := vp_nI (show 6 * nw + l < 12 by omega) (show 12 < 2147483648 by decide)
    have nX := nI_cl (show 6 * nw + l < 2147483648 by omega)
    have a60 : mI (wI m 96 g) 50 60 = nI k := by rw [mI_wI_o (by decide)]; exact m6
    have a31 : mI (wI m 96 g) 50 31 = nI nw := by rw [mI_wI_o (by decide)]; exact h31
    have a79 : mI (wI m 96 g) 79 = mI m 79 := mI_wI_o (by decide)
    refine ⟨g, ?_, hg⟩
    show f_X11_work_b118_it F (f_X11_work_b118 F 50 M) 50 (wI m 96 g) (nI f) (nI l) (nI (kp st A k).1) (nI k) = _
    simp only [f_X11_work_b118_it, mK_wI_, mL_wI_, mR_wI_, hM, a60, q1, a31, i6, vX, nX, a79, nx_eq, ck_true, br_true, br_false, bd_eq, de_eq, mN_sI_, mK_sI_, mL_sI_, mI_sI_ap, mJ_sI_, mR_sI_, mN_sJ_, mK_sJ_, mL_sJ_, mI_sJ_, mJ_sJ_ap, mR_sJ_, mN_sR_, mK_sR_, mL_sR_, mI_sR_, mJ_sR_, mR_sR_ap, Nat.reduceEqDiff, Nat.reduceAdd, ↓reduceIte, and_true, true_and, and_false, false_and, or_true, true_or, or_false, false_or, not_true_eq_false, not_false_eq_true, i10, i01, ii01, ii02, ii03, ii04, ii05, ii12, ii13, ii14, ii15, ii20, ii21, ii23, ii24, ii25, ii30, ii31, ii32, ii34, ii35, ii40, ii41, ii42, ii43, ii45, ii50, ii51, ii52, ii53, ii54, bi_z, Option.some.injEq, reduceCtorEq, Nat.reduceLeDiff]
  | succ j ih =>
    intro k g M hk hM2 hg
    obtain ⟨M, rfl⟩ : ∃ x, M = x + 1 := ⟨M - 1, by omega⟩
    have hkn : k < n := by omega
    obtain ⟨p1, p2, p3⟩ := kp_p st A k
    obtain ⟨a1, a2⟩ := hA k hkn
    obtain ⟨s1, s2⟩ := hst _ a1
    have q1 : ¬ nI n ≤ nI k := nI_ge hkn (by omega)
    have vk := vp_nI (show k < 24 by omega) (show 24 < 2147483648 by decide)
    have nk := nI_cl (show k < 2147483648 by omega)
    have vκ := vp_nI (show (kp st A k).1 < 24 by omega) (show 24 < 2147483648 by decide)
    have nκ := nI_cl (show (kp st A k).1 < 2147483648 by omega)
    have vs := vp_nI (show 144 * f + 24 * l + A k < 864 by omega) (show 864 < 2147483648 by decide)
    have ns := nI_cl (show 144 * f + 24 * l + A k < 2147483648 by omega)
    have a60 : mI (wI m 96 g) 50 60 = nI n := by rw [mI_wI_o (by decide)]; exact m6
    have a91 : mI (wI m 96 g) 91 k = nI (A k) := by rw [mI_wI_o (by decide)]; exact a2
    have a73 : mI (wI m 96 g) 73 (144 * f + 24 * l + A k) = nI (st (A k)) := by rw [mI_wI_o (by decide)]; exact s2
    by_cases e : 0 < st (A k)
    · have g3 : ¬ nI (st (A k)) ≤ 0 := nI_nle e (by omega)
      obtain ⟨g', w1, w2⟩ := ih (k + 1) (va_up g (kp st A k).1 (nI (A k))) M (by omega) (by omega) (fun i hi => by
        rw [kp_y e] at hi ⊢
        show _ = nI (A (va_up (kp st A k).2 (kp st A k).1 k i))
        have hi' : i < (kp st A k).1 + 1 := hi
        by_cases q : i = (kp st A k).1
        · rw [q, va_up_self, va_up_self]
        · rw [va_up_ne _ _ q, va_up_ne _ _ q]; exact hg i (by omega))
      refine ⟨g', ?_, w2⟩
      rw [kp_y e] at w1
      have w1' : f_X11_work_b118 F 50 M (wI m 96 (va_up g (kp st A k).1 (nI (A k)))) (nI f) (nI l) (nI ((kp st A k).1 + 1)) (nI (k + 1)) = _ := w1
      show f_X11_work_b118_it F (f_X11_work_b118 F 50 M) 50 (wI m 96 g) (nI f) (nI l) (nI (kp st A k).1) (nI k) = _
      simp only [f_X11_work_b118_it, f_X11_work_b170, mK_wI_, mL_wI_, mR_wI_, hM, a60, q1, vk, nk, a91, i144, vs, ns, a73, g3, vκ, nκ, sI_wI, nI_1, w1', nx_eq, ck_true, br_true, br_false, bd_eq, de_eq, mN_sI_, mK_sI_, mL_sI_, mI_sI_ap, mJ_sI_, mR_sI_, mN_sJ_, mK_sJ_, mL_sJ_, mI_sJ_, mJ_sJ_ap, mR_sJ_, mN_sR_, mK_sR_, mL_sR_, mI_sR_, mJ_sR_, mR_sR_ap, Nat.reduceEqDiff, Nat.reduceAdd, ↓reduceIte, and_true, true_and, and_false, false_and, or_true, true_or, or_false, false_or, not_true_eq_false, not_false_eq_true, i10, i01, ii01, ii02, ii03, ii04, ii05, ii12, ii13, ii14, ii15, ii20, ii21, ii23, ii24, ii25, ii30, ii31, ii32, ii34, ii35, ii40, ii41, ii42, ii43, ii45, ii50, ii51, ii52, ii53, ii54, bi_z, Option.some.injEq, reduceCtorEq, Nat.reduceLeDiff]
    · have g3 : nI (st (A k)) ≤ 0 := nI_le (a := st (A k)) (b := 0) (by omega) (by decide)
      obtain ⟨g', w1, w2⟩ := ih (k + 1) g M (by omega) (by omega) (fun i hi => by
        rw [kp_n e] at hi ⊢
        exact hg i hi)
      refine ⟨g', ?_, w2⟩
      rw [kp_n e] at w1
      show f_X11_work_b118_it F (f_X11_work_b118 F 50 M) 50 (wI m 96 g) (nI f) (nI l) (nI (kp st A k).1) (nI k) = _
      simp only [f_X11_work_b118_it, f_X11_work_b170, mK_wI_, mL_wI_, mR_wI_, hM, a60, q1, vk, nk, a91, i144, vs, ns, a73, g3, nI_1, w1, nx_eq, ck_true, br_true, br_false, bd_eq, de_eq, mN_sI_, mK_sI_, mL_sI_, mI_sI_ap, mJ_sI_, mR_sI_, mN_sJ_, mK_sJ_, mL_sJ_, mI_sJ_, mJ_sJ_ap, mR_sJ_, mN_sR_, mK_sR_, mL_sR_, mI_sR_, mJ_sR_, mR_sR_ap, Nat.reduceEqDiff, Nat.reduceAdd, ↓reduceIte, and_true, true_and, and_false, false_and, or_true, true_or, or_false, false_or, not_true_eq_false, not_false_eq_true, i10, i01, ii01, ii02, ii03, ii04, ii05, ii12, ii13, ii14, ii15, ii20, ii21, ii23, ii24, ii25, ii30, ii31, ii32, ii34, ii35, ii40, ii41, ii42, ii43, ii45, ii50, ii51, ii52, ii53, ii54, bi_z, Option.some.injEq, reduceCtorEq, Nat.reduceLeDiff]
/-- the reference looks for the end of a group -/
theorem lp_b208 (F : Nat) (hF : 101 ≤ F) (K : Mem → Int32 → Int32 → Int32 → Int32 → Int32 → Option (Unit × Mem)) {d : Mem} {f S L N last day n u e : Nat} {sb pp : Nat → Nat} (hD : DF d f S L N) (hl : last ≤ 40000) (hn : n ≤ 24) (hu : u < e) (hen : e ≤ n) (hsb : ∀ i, i < n → sb i < N ∧ 0 < zW d f (sb i) ∧ sk d f S last day (sb i) = some (ks d f S last day (sb i))) (hE : ∀ i i', i < i' → i' < n → (vB d f S last day (sb i) (sb i') = 0 ↔ pp i = pp i')) (ht : ∀ t, u ≤ t → t + 1 < e → tie n pp t) (hnt : ¬ tie n pp (e - 1)) (p2 p5 : Int32) :
    ∀ j to M m, to + j = e → u < to → j < M → MF d m f S N → BST d m f S N last day → (∀ i, i < n → mI m 96 i = nI (sb i)) → ∃ m', f_X11_work_b208 F K 50 M m (nI f) p2 (nI n) p5 (nI u) (nI to) = f_X11_work_b243 F K 50 m' (nI f) p2 (nI n) p5 (nI u) (nI e) ∧ frL m m' := by
  have chain : ∀ t, u + t < e → pp u = pp (u + t) := by
    intro t
    induction t with
    | zero => intro _; rfl
    | succ t ih =>
      intro h
      rw [ih (by omega)]
      exact (ht (u + t) (by omega) (by omega)).2
  have step : ∀ to m, u < to → to < n → MF d m f S N → BST d m f S N last day → ∃ m', frL m m' ∧ f_X11_over F m 50 (nI f) (nI (sb u)) (nI (sb to)) = some (vB d f S last day (sb u) (sb to), m') := by
    intro to m h1 h2 hMF hB
    obtain ⟨a1, a2, a3⟩ := hsb u (by omega)
    obtain ⟨b1, b2, b3⟩ := hsb to h2
    obtain ⟨s1, s2⟩ := sk_C a3
    obtain ⟨s3, s4⟩ := sk_C b3
    obtain ⟨t1, t2⟩ := (hB _ a1).2 _ a2 a3
    obtain ⟨t3, t4⟩ := (hB _ b1).2 _ b2 b3
    exact e_overB F hF hD hMF s1 s3 a1 b1 s2 s4 hl t1 t2 t3 t4
  intro j
  induction j with
  | zero =>
    intro to M m hto hut hM2 hMF hB h96
    obtain ⟨M, rfl⟩ : ∃ x, M = x + 1 := ⟨M - 1, by omega⟩
    obtain rfl : to = e := by omega
    have hM := hMF.1
    by_cases q : to = n
    · have q1 : nI n ≤ nI to := nI_le (by omega) (by omega)
      refine ⟨m, ?_, frL.rf m⟩
      show f_X11_work_b208_it F (f_X11_work_b208 F K 50 M) K 50 m (nI f) p2 (nI n) p5 (nI u) (nI to) = _
      simp only [f_X11_work_b208_it, q1, nx_eq, ck_true, br_true, br_false, bd_eq, de_eq, mN_sI_, mK_sI_, mL_sI_, mI_sI_ap, mJ_sI_, mR_sI_, mN_sJ_, mK_sJ_, mL_sJ_, mI_sJ_, mJ_sJ_ap, mR_sJ_, mN_sR_, mK_sR_, mL_sR_, mI_sR_, mJ_sR_, mR_sR_ap, Nat.reduceEqDiff, Nat.reduceAdd, ↓reduceIte, and_true, true_and, and_false, false_and, or_true, true_or, or_false, false_or, not_true_eq_false, not_false_eq_true, i10, i01, ii01, ii02, ii03, ii04, ii05, ii12, ii13, ii14, ii15, ii20, ii21, ii23, ii24, ii25, ii30, ii31, ii32, ii34, ii35, ii40, ii41, ii42, ii43, ii45, ii50, ii51, ii52, ii53, ii54, bi_z, Option.some.injEq, reduceCtorEq, Nat.reduceLeDiff]
    · have q1 : ¬ nI n ≤ nI to := nI_ge (by omega) (by omega)
      obtain ⟨m', fr, eO⟩ := step to m hut (by omega) hMF hB
      have ne : ¬ vB d f S last day (sb u) (sb to) = 0 := fun z => by
        have z2 := (hE u to hut (by omega)).mp z
        refine hnt ⟨by omega, ?_⟩
        have := chain (to - 1 - u) (by omega)
        rw [show u + (to - 1 - u) = to - 1 by omega] at this
        rw [← this, show to - 1 + 1 = to by omega]
        exact z2
      have vu := vp_nI (show u < 24 by omega) (show 24 < 2147483648 by decide)
      have nu := nI_cl (show u < 2147483648 by omega)
      have vt := vp_nI (show to < 24 by omega) (show 24 < 2147483648 by decide)
      have nt := nI_cl (show to < 2147483648 by omega)
      refine ⟨m', ?_, fr⟩
      show f_X11_work_b208_it F (f_X11_work_b208 F K 50 M) K 50 m (nI f) p2 (nI n) p5 (nI u) (nI to) = _
      simp only [f_X11_work_b208_it, q1, hM, vu, nu, vt, nt, h96 u (by omega), h96 to (by omega), eO, ne, nx_eq, ck_true, br_true, br_false, bd_eq, de_eq, mN_sI_, mK_sI_, mL_sI_, mI_sI_ap, mJ_sI_, mR_sI_, mN_sJ_, mK_sJ_, mL_sJ_, mI_sJ_, mJ_sJ_ap, mR_sJ_, mN_sR_, mK_sR_, mL_sR_, mI_sR_, mJ_sR_, mR_sR_ap, Nat.reduceEqDiff, Nat.reduceAdd, ↓reduceIte, and_true, true_and, and_false, false_and, or_true, true_or, or_false, false_or, not_true_eq_false, not_false_eq_true, i10, i01, ii01, ii02, ii03, ii04, ii05, ii12, ii13, ii14, ii15, ii20, ii21, ii23, ii24, ii25, ii30, ii31, ii32, ii34, ii35, ii40, ii41, ii42, ii43, ii45, ii50, ii51, ii52, ii53, ii54, bi_z, Option.some.injEq, reduceCtorEq, Nat.reduceLeDiff]
  | succ j ih =>
    intro to M m hto hut hM2 hMF hB h96
    obtain ⟨M, rfl⟩ : ∃ x, M = x + 1 := ⟨M - 1, by omega⟩
    have hM := hMF.1
    have q1 : ¬ nI n ≤ nI to := nI_ge (by omega) (by omega)
    obtain ⟨m2, fr, eO⟩ := step to m hut (by omega) hMF hB
    have eq : vB d f S last day (sb u) (sb to) = 0 := by
      refine (hE u to hut (by omega)).mpr ?_
      have := chain (to - u) (by omega)
      rw [show u + (to - u) = to by omega] at this
      exact this
    have vu := vp_nI (show u < 24 by omega) (show 24 < 2147483648 by decide)
    have nu := nI_cl (show u < 2147483648 by omega)
    have vt := vp_nI (show to < 24 by omega) (show 24 < 2147483648 by decide)
    have nt := nI_cl (show to < 2147483648 by omega)
    obtain ⟨m', w1, w2⟩ := ih (to + 1) M m2 (by omega) (by omega) (by omega) (hMF.cg fr.frR) (hB.cg fr.frQ) (fun i hi => by rw [fr.2.2.2.1]; exact h96 i hi)
    refine ⟨m', ?_, fr.tr w2⟩
    show f_X11_work_b208_it F (f_X11_work_b208 F K 50 M) K 50 m (nI f) p2 (nI n) p5 (nI u) (nI to) = _
    simp only [f_X11_work_b208_it, q1, hM, vu, nu, vt, nt, h96 u (by omega), h96 to (by omega), eO, eq, nI_1, w1, nx_eq, ck_true, br_true, br_false, bd_eq, de_eq, mN_sI_, mK_sI_, mL_sI_, mI_sI_ap, mJ_sI_, mR_sI_, mN_sJ_, mK_sJ_, mL_sJ_, mI_sJ_, mJ_sJ_ap, mR_sJ_, mN_sR_, mK_sR_, mL_sR_, mI_sR_, mJ_sR_, mR_sR_ap, Nat.reduceEqDiff, Nat.reduceAdd, ↓reduceIte, and_true, true_and, and_false, false_and, or_true, true_or, or_false, false_or, not_true_eq_false, not_false_eq_true, i10, i01, ii01, ii02, ii03, ii04, ii05, ii12, ii13, ii14, ii15, ii20, ii21, ii23, ii24, ii25, ii30, ii31, ii32, ii34, ii35, ii40, ii41, ii42, ii43, ii45, ii50, ii51, ii52, ii53, ii54, bi_z, Option.some.injEq, reduceCtorEq, Nat.reduceLeDiff]
theorem ac_z {T y u : Nat} {py : Nat → Nat} (h0 : ∀ j, y ≤ j → py j = 0) {k : Nat} (hk : y ≤ u + k) : ∀ t, ac T py u (k + t) = ac T py u k := by
  intro t
  induction t with
  | zero => rfl
  | succ t ih =>
    show ac T py u (k + t) + sh T py (u + (k + t)) = _
    have : sh T py (u + (k + t)) = 0 := by
      unfold sh
      rw [h0 _ (by omega)]
      simp
    rw [ih, this, Nat.add_zero]
theorem lp_b250 (F : Nat) (K : Mem → Int32 → Int32 → Int32 → Int32 → Int32 → Option (Unit × Mem)) {c m : Mem} (hM : shM m) {l nw y T u e : Nat} {py : Nat → Nat} (l6 : l < 6) (hw : nw ≤ 1) (h31 : mI m 50 31 = nI nw) (hP : PAYS c m l (6 * nw + l) y py) (hT : T ≤ 240000) (e0 : mJ m 95 0 = lN T) (hu : u < e) (he : e ≤ 24) (p1 p4 : Int32) :
    ∀ t k M, u + k + t = e → t < M → f_X11_work_b250 F K 50 M m p1 (nI l) p4 (mI m 79 (6 * nw + l)) (nI u) (nI e) (lN (ac T py u k)) (nI (u + k)) = f_X11_work_b307 F K 50 m p1 (nI l) p4 (mI m 79 (6 * nw + l)) (nI u) (nI e) (lN (ac T py u (e - u))) := by
  obtain ⟨a1, a2, a3, a4, a5, a6⟩ := hP
  intro t
  induction t with
  | zero =>
    intro k M hk hM2
    obtain ⟨M, rfl⟩ : ∃ x, M = x + 1 := ⟨M - 1, by omega⟩
    have q1 : nI e ≤ nI (u + k) := nI_le (by omega) (by omega)
    have : k = e - u := by omega
    rw [← this]
    show f_X11_work_b250_it F (f_X11_work_b250 F K 50 M) K 50 m p1 (nI l) p4 (mI m 79 (6 * nw + l)) (nI u) (nI e) (lN (ac T py u k)) (nI (u + k)) = _
    simp only [f_X11_work_b250_it, q1, nx_eq, ck_true, br_true, br_false, bd_eq, de_eq, mN_sI_, mK_sI_, mL_sI_, mI_sI_ap, mJ_sI_, mR_sI_, mN_sJ_, mK_sJ_, mL_sJ_, mI_sJ_, mJ_sJ_ap, mR_sJ_, mN_sR_, mK_sR_, mL_sR_, mI_sR_, mJ_sR_, mR_sR_ap, Nat.reduceEqDiff, Nat.reduceAdd, ↓reduceIte, and_true, true_and, and_false, false_and, or_true, true_or, or_false, false_or, not_true_eq_false, not_false_eq_true, i10, i01, ii01, ii02, ii03, ii04, ii05, ii12, ii13, ii14, ii15, ii20, ii21, ii23, ii24, ii25, ii30, ii31, ii32, ii34, ii35, ii40, ii41, ii42, ii43, ii45, ii50, ii51, ii52, ii53, ii54, bi_z, Option.some.injEq, reduceCtorEq, Nat.reduceLeDiff]
  | succ t ih =>
    intro k M hk hM2
    obtain ⟨M, rfl⟩ : ∃ x, M = x + 1 := ⟨M - 1, by omega⟩
    have q1 : ¬ nI e ≤ nI (u + k) := nI_ge (by omega) (by omega)
    show f_X11_work_b250_it F (f_X11_work_b250 F K 50 M) K 50 m p1 (nI l) p4 (mI m 79 (6 * nw + l)) (nI u) (nI e) (lN (ac T py u k)) (nI (u + k)) = _
    by_cases ey : y ≤ u + k
    · have q2 : mI m 79 (6 * nw + l) ≤ nI (u + k) := by
        rcases a3 with h | ⟨-, h⟩
        · rw [h]; exact nI_le ey (by omega)
        · rw [h]; exact Int32.le_trans (show (-1 : Int32) ≤ 0 by decide) (nI_pos' (by omega))
      have hz := ac_z (T := T) (u := u) a5 ey (e - u - k)
      rw [show k + (e - u - k) = e - u by omega] at hz
      rw [hz]
      simp only [f_X11_work_b250_it, q1, q2, nx_eq, ck_true, br_true, br_false, bd_eq, de_eq, mN_sI_, mK_sI_, mL_sI_, mI_sI_ap, mJ_sI_, mR_sI_, mN_sJ_, mK_sJ_, mL_sJ_, mI_sJ_, mJ_sJ_ap, mR_sJ_, mN_sR_, mK_sR_, mL_sR_, mI_sR_, mJ_sR_, mR_sR_ap, Nat.reduceEqDiff, Nat.reduceAdd, ↓reduceIte, and_true, true_and, and_false, false_and, or_true, true_or, or_false, false_or, not_true_eq_false, not_false_eq_true, i10, i01, ii01, ii02, ii03, ii04, ii05, ii12, ii13, ii14, ii15, ii20, ii21, ii23, ii24, ii25, ii30, ii31, ii32, ii34, ii35, ii40, ii41, ii42, ii43, ii45, ii50, ii51, ii52, ii53, ii54, bi_z, Option.some.injEq, reduceCtorEq, Nat.reduceLeDiff]
    · have q2 : ¬ mI m 79 (6 * nw + l) ≤ nI (u + k) := by
        rcases a3 with h | ⟨h0, -⟩
        · rw [h]; exact nI_ge (by omega) (by omega)
        · omega
      obtain ⟨-, b2⟩ := a4 (u + k) (by omega)
      have hp := a6 (u + k)
      have mT := Nat.mul_le_mul hT hp
      have i8X : (8 : Int32) * nI (6 * nw + l) + nI (u + k) = nI (8 * (6 * nw + l) + (u + k)) := i8 _ _
      have v8 := vp_nI (show 8 * (6 * nw + l) + (u + k) < 96 by omega) (show 96 < 2147483648 by decide)
      have n8 := nI_cl (show 8 * (6 * nw + l) + (u + k) < 2147483648 by omega)
      obtain ⟨y0, -⟩ := y01
      obtain ⟨w0, -⟩ := w01
      have ep : (nI (py (u + k))).toInt64 = lN (py (u + k)) := nI_l (by omega)
      have n100 : ¬ (100 : Int64) = 0 := by decide
      have esh : lN (T * py (u + k)) / (100 : Int64) = lN (sh T py (u + k)) := pk_lDiv (b := 100) (by omega) (by decide) (by decide)
      have hih := ih (k + 1) M (by omega) (by omega)
      have eac : ac T py u k + sh T py (u + k) = ac T py u (k + 1) := rfl
      rw [← hih]
      simp only [f_X11_work_b250_it, q1, q2, hM, w0, y0, h31, i6, i8X, v8, n8, b2, ep, e0, lN_mul, n100, esh, lN_add, eac, nI_1, nx_eq, ck_true, br_true, br_false, bd_eq, de_eq, mN_sI_, mK_sI_, mL_sI_, mI_sI_ap, mJ_sI_, mR_sI_, mN_sJ_, mK_sJ_, mL_sJ_, mI_sJ_, mJ_sJ_ap, mR_sJ_, mN_sR_, mK_sR_, mL_sR_, mI_sR_, mJ_sR_, mR_sR_ap, Nat.reduceEqDiff, Nat.reduceAdd, ↓reduceIte, and_true, true_and, and_false, false_and, or_true, true_or, or_false, false_or, not_true_eq_false, not_false_eq_true, i10, i01, ii01, ii02, ii03, ii04, ii05, ii12, ii13, ii14, ii15, ii20, ii21, ii23, ii24, ii25, ii30, ii31, ii32, ii34, ii35, ii40, ii41, ii42, ii43, ii45, ii50, ii51, ii52, ii53, ii54, bi_z, Option.some.injEq, reduceCtorEq, Nat.reduceLeDiff]
      rfl
theorem lp_b311 (F : Nat) (K : Mem → Int32 → Int32 → Int32 → Int32 → Int32 → Option (Unit × Mem)) {n u e A T bk : Nat} {sb : Nat → Nat} (hn : n ≤ 24) (hu : u < e) (hen : e ≤ n) (hA : A < 2147483648) (hsb : ∀ i, i < n → sb i < 24) (p1 p2 p4 p5 : Int32) :
    ∀ j k M m pz pd, k + j = e → u ≤ k → j < M → shM m → (∀ i, i < n → mI m 96 i = nI (sb i)) → PM m pz T pd bk → ∃ m', f_X11_work_b311 F K 50 M m p1 p2 p4 p5 (nI u) (nI e) (lN A) (nI k) = K m' p1 p2 p4 p5 (nI e) ∧ frV m m' ∧ PM m' (payG sb (A / (e - u)) j k pz) T (pd + j * (A / (e - u))) bk := by
  intro j
  induction j with
  | zero =>
    intro k M m pz pd hk huk hM2 hM h96 hPM
    obtain ⟨M, rfl⟩ : ∃ x, M = x + 1 := ⟨M - 1, by omega⟩
    obtain rfl : k = e := by omega
    have q1 : nI k ≤ nI k := nI_le (Nat.le_refl _) (by omega)
    refine ⟨m, ?_, frV.rf m, by rw [Nat.zero_mul]; exact hPM⟩
    show f_X11_work_b311_it F (f_X11_work_b311 F K 50 M) K 50 m p1 p2 p4 p5 (nI u) (nI k) (lN A) (nI k) = _
    simp only [f_X11_work_b311_it, q1, nx_eq, ck_true, br_true, br_false, bd_eq, de_eq, mN_sI_, mK_sI_, mL_sI_, mI_sI_ap, mJ_sI_, mR_sI_, mN_sJ_, mK_sJ_, mL_sJ_, mI_sJ_, mJ_sJ_ap, mR_sJ_, mN_sR_, mK_sR_, mL_sR_, mI_sR_, mJ_sR_, mR_sR_ap, Nat.reduceEqDiff, Nat.reduceAdd, ↓reduceIte, and_true, true_and, and_false, false_and, or_true, true_or, or_false, false_or, not_true_eq_false, not_false_eq_true, i10, i01, ii01, ii02, ii03, ii04, ii05, ii12, ii13, ii14, ii15, ii20, ii21, ii23, ii24, ii25, ii30, ii31, ii32, ii34, ii35, ii40, ii41, ii42, ii43, ii45, ii50, ii51, ii52, ii53, ii54, bi_z, Option.some.injEq, reduceCtorEq, Nat.reduceLeDiff]
  | succ j ih =>
    intro k M m pz pd hk huk hM2 hM h96 hPM
    obtain ⟨M, rfl⟩ : ∃ x, M = x + 1 := ⟨M - 1, by omega⟩
    obtain ⟨o1, o2, o3, o4⟩ := hPM
    have q1 : ¬ nI e ≤ nI k := nI_ge (by omega) (by omega)
    have hs := hsb k (by omega)
    have vk := vp_nI (show k < 24 by omega) (show 24 < 2147483648 by decide)
    have nk := nI_cl (show k < 2147483648 by omega)
    have vb := vp_nI hs (show 24 < 2147483648 by decide)
    have nb := nI_cl (show sb k < 2147483648 by omega)
    have e96 := h96 k (by omega)
    have ed : (nI e - nI u).toInt64 = lN (e - u) := by rw [pk_sub (by omega), nI_l (by omega)]
    have nz : ¬ lN (e - u) = lN 0 := by rw [lNeq (by omega) (by decide)]; omega
    have eq : lN A / lN (e - u) = lN (A / (e - u)) := pk_lDiv (by omega) (by omega) (by omega)
    obtain ⟨-, y1, -⟩ := y01
    obtain ⟨-, w1, -⟩ := w01
    have n95 : ¬ (95 : Nat) = 94 := by decide
    obtain ⟨m', a1, a2, a3⟩ := ih (k + 1) M (sJ (sJ m 94 (sb k) (lN (A / (e - u)))) 95 1 (lN (pd + A / (e - u)))) (va_up pz (sb k) (A / (e - u))) (pd + A / (e - u)) (by omega) (by omega) (by omega) hM h96 ⟨fun b hb => by
        rw [mJ_sJ_o (by decide)]
        by_cases q : b = sb k
        · rw [q, mJ_sJ_e, va_up_self]
        · rw [mJ_sJ_j q, va_up_ne _ _ q]; exact o1 b hb, by rw [mJ_sJ_j (by decide), mJ_sJ_o (by decide)]; exact o2, mJ_sJ_e, by rw [mJ_sJ_j (by decide), mJ_sJ_o (by decide)]; exact o4⟩
    refine ⟨m', ?_, ((frV.sJ (Or.inl rfl)).tr (frV.sJ (Or.inr rfl))).tr a2, ?_⟩
    · show f_X11_work_b311_it F (f_X11_work_b311 F K 50 M) K 50 m p1 p2 p4 p5 (nI u) (nI e) (lN A) (nI k) = _
      simp only [f_X11_work_b311_it, q1, hM, vk, nk, e96, ed, lN0, nz, vb, nb, eq, w1, y1, n95, o3, lN_add, nI_1, a1, nx_eq, ck_true, br_true, br_false, bd_eq, de_eq, mN_sI_, mK_sI_, mL_sI_, mI_sI_ap, mJ_sI_, mR_sI_, mN_sJ_, mK_sJ_, mL_sJ_, mI_sJ_, mJ_sJ_ap, mR_sJ_, mN_sR_, mK_sR_, mL_sR_, mI_sR_, mJ_sR_, mR_sR_ap, Nat.reduceEqDiff, Nat.reduceAdd, ↓reduceIte, and_true, true_and, and_false, false_and, or_true, true_or, or_false, false_or, not_true_eq_false, not_false_eq_true, i10, i01, ii01, ii02, ii03, ii04, ii05, ii12, ii13, ii14, ii15, ii20, ii21, ii23, ii24, ii25, ii30, ii31, ii32, ii34, ii35, ii40, ii41, ii42, ii43, ii45, ii50, ii51, ii52, ii53, ii54, bi_z, Option.some.injEq, reduceCtorEq, Nat.reduceLeDiff]
    · have : pd + A / (e - u) + j * (A / (e - u)) = pd + (j + 1) * (A / (e - u)) := by rw [Nat.add_mul, Nat.one_mul]; omega
      rw [← this]
      exact a3
