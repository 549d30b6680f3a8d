/-! lofts with too many birds are cut -/
def cnt (d : Mem) (kl : Nat → Nat) (l : Nat) : Nat → Nat
  | 0 => 0
  | n + 1 => cnt d kl l n + if zl d (kl n) = l then 1 else 0
theorem cnt_le (d : Mem) (kl : Nat → Nat) (l : Nat) : ∀ n, cnt d kl l n ≤ n := by
  intro n
  induction n with
  | zero => exact Nat.le_refl _
  | succ n ih =>
    show cnt d kl l n + (if zl d (kl n) = l then 1 else 0) ≤ n + 1
    by_cases e : zl d (kl n) = l
    · rw [if_pos e]; omega
    · rw [if_neg e]; omega
theorem cnt_ext (d : Mem) (s t : Nat → Nat) (l : Nat) : ∀ n, (∀ i, i < n → s i = t i) → cnt d s l n = cnt d t l n := by
  intro n
  induction n with
  | zero => intro _; rfl
  | succ n ih =>
    intro h
    show cnt d s l n + (if zl d (s n) = l then 1 else 0) = cnt d t l n + (if zl d (t n) = l then 1 else 0)
    rw [ih (fun i hi => h i (by omega)), h n (by omega)]
theorem lp_217 (F : Nat) (K : Mem → Int32 → Int32 → Int32 → Int32 → Option (Unit × Mem)) {d m : Mem} {f S L N k a κ : Nat} {kl : Nat → Nat} (hD : DF d f S L N) (hMF : MF d m f S N) (hk : k < 24) (hκ : κ ≤ 24) (p1 lim : Int32) (hka : mI m 91 k = nI a) (ha : a < N) (hkl : ∀ i, i < κ → mI m 91 i = nI (kl i) ∧ kl i < N) :
    ∀ j i M, i + j = κ → j < M → f_X11_results_b217 F K 50 M m p1 lim (nI κ) (nI k) (nI (cnt d kl (zl d a) i)) (nI i) = br (lim < 0) (f_X11_results_b282 F K 50 m p1 lim (nI κ) (nI k)) (br (nI (cnt d kl (zl d a) κ) < lim) (f_X11_results_b282 F K 50 m p1 lim (nI κ) (nI k)) (f_X11_results_b299 F K 50 m p1 lim (nI κ) (nI k))) := by
  have hM := hMF.1
  have hN := hD.2.2.2.1
  have hL := hD.2.2.1
  have e54 := hMF.2.2.2.2.2.2.2.1
  have b0 := hD.2.2.2.2.2.2.2.2.1
  intro j
  induction j with
  | zero =>
    intro i M hi hM2
    obtain ⟨M, rfl⟩ : ∃ x, M = x + 1 := ⟨M - 1, by omega⟩
    obtain rfl : i = κ := by omega
    have q1 : nI i ≤ nI i := nI_le (Nat.le_refl _) (by omega)
    show f_X11_results_b217_it F (f_X11_results_b217 F K 50 M) K 50 m p1 lim (nI i) (nI k) (nI (cnt d kl (zl d a) i)) (nI i) = _
    unfold f_X11_results_b217_it
    rw [br_t1 q1]
  | succ j ih =>
    intro i M hi hM2
    obtain ⟨M, rfl⟩ : ∃ x, M = x + 1 := ⟨M - 1, by omega⟩
    have hiκ : i < κ := by omega
    obtain ⟨g1, g2⟩ := hkl i hiκ
    have q1 : ¬ nI κ ≤ nI i := nI_ge hiκ (by omega)
    have vi := vp_nI (show i < 24 by omega) (show 24 < 2147483648 by decide)
    have ni := nI_cl (show i < 2147483648 by omega)
    have vk := vp_nI hk (show 24 < 2147483648 by decide)
    have nk := nI_cl (show k < 2147483648 by omega)
    have vx := vp_nI (show kl i < 24 by omega) (show 24 < 2147483648 by decide)
    have nx := nI_cl (show kl i < 2147483648 by omega)
    have va := vp_nI (show a < 24 by omega) (show 24 < 2147483648 by decide)
    have na := nI_cl (show a < 2147483648 by omega)
    have s1 := (e54 _ g2).1
    have s2 := (e54 _ ha).1
    have t1 := (b0 _ g2).1
    have t2 := (b0 _ ha).1
    have eq1 : (nI (zl d (kl i)) = nI (zl d a)) = (zl d (kl i) = zl d a) := nI_eqk _ (by omega) (by omega)
    have hih := ih (i + 1) M (by omega) (by omega)
    have ec : cnt d kl (zl d a) (i + 1) = cnt d kl (zl d a) i + if zl d (kl i) = zl d a then 1 else 0 := rfl
    rw [ec] at hih
    rw [← hih]
    show f_X11_results_b217_it F (f_X11_results_b217 F K 50 M) K 50 m p1 lim (nI κ) (nI k) (nI (cnt d kl (zl d a) i)) (nI i) = _
    by_cases e : zl d (kl i) = zl d a
    · rw [if_pos e]
      simp only [f_X11_results_b217_it, f_X11_results_b258, q1, hM, vi, ni, vk, nk, g1, hka, vx, nx, va, na, s1, s2, eq1, e, nI_1, nx_eq, ck_true, br_true, br_false, bd_eq, de_eq, mN_sI_, mK_sI_, mL_sI_, mI_sI_ap, mJ_sI_, mR_sI_, mN_sJ_, mK_sJ_, mL_sJ_, mI_sJ_, mJ_sJ_ap, mR_sJ_, mN_sR_, mK_sR_, mL_sR_, mI_sR_, mJ_sR_, mR_sR_ap, Nat.reduceEqDiff, Nat.reduceAdd, ↓reduceIte, and_true, true_and, and_false, false_and, or_true, true_or, or_false, false_or, not_true_eq_false, not_false_eq_true, i10, i01, ii01, ii02, ii03, ii04, ii05, ii12, ii13, ii14, ii15, ii20, ii21, ii23, ii24, ii25, ii30, ii31, ii32, ii34, ii35, ii40, ii41, ii42, ii43, ii45, ii50, ii51, ii52, ii53, ii54, bi_z, Option.some.injEq, reduceCtorEq, Nat.reduceLeDiff]
    · have a0 : nI (cnt d kl (zl d a) i) + (0 : Int32) = nI (cnt d kl (zl d a) i + 0) := nI_add _ 0
      rw [if_neg e]
      simp only [f_X11_results_b217_it, f_X11_results_b258, q1, hM, vi, ni, vk, nk, g1, hka, vx, nx, va, na, s1, s2, eq1, e, a0, nI_1, nx_eq, ck_true, br_true, br_false, bd_eq, de_eq, mN_sI_, mK_sI_, mL_sI_, mI_sI_ap, mJ_sI_, mR_sI_, mN_sJ_, mK_sJ_, mL_sJ_, mI_sJ_, mJ_sJ_ap, mR_sJ_, mN_sR_, mK_sR_, mL_sR_, mI_sR_, mJ_sR_, mR_sR_ap, Nat.reduceEqDiff, Nat.reduceAdd, ↓reduceIte, and_true, true_and, and_false, false_and, or_true, true_or, or_false, false_or, not_true_eq_false, not_false_eq_true, i10, i01, ii01, ii02, ii03, ii04, ii05, ii12, ii13, ii14, ii15, ii20, ii21, ii23, ii24, ii25, ii30, ii31, ii32, ii34, ii35, ii40, ii41, ii42, ii43, ii45, ii50, ii51, ii52, ii53, ii54, bi_z, Option.some.injEq, reduceCtorEq, Nat.reduceLeDiff]
/-- how far the cut has come: kept birds ahead, the rest behind -/
def CUT (d : Mem) (f S N last day : Nat) (c m : Mem) (z n k κ : Nat) (ln kl : Nat → Nat) : Prop :=
  κ ≤ k ∧ k ≤ n ∧ n ≤ 24 ∧ mI c z 6 = nI n ∧ mI m 50 60 = nI n ∧ (∀ i, i < κ → ent d f S N last day c m z i (kl i)) ∧ (∀ i, k ≤ i → i < n → ent d f S N last day c m z i (ln i)) ∧ DST n ln ∧ SRT d f S last day n ln ∧ DST κ kl ∧ SRT d f S last day κ kl ∧ ∀ i j, i < κ → k ≤ j → j < n → kl i ≠ ln j ∧ fsA d f S last day (kl i) (ln j)
theorem CUT.skip {d : Mem} {f S N last day : Nat} {c m : Mem} {z n k κ : Nat} {ln kl : Nat → Nat} (h : CUT d f S N last day c m z n k κ ln kl) (hk : k < n) : CUT d f S N last day c m z n (k + 1) κ ln kl := by
  obtain ⟨a1, a2, a3, a4, a5, a6, a7, a8, a9, a10, a11, a12⟩ := h
  exact ⟨by omega, by omega, a3, a4, a5, a6, fun i h1 h2 => a7 i (by omega) h2, a8, a9, a10, a11, fun i j h1 h2 h3 => a12 i j h1 (by omega) h3⟩
theorem CUT.take {d : Mem} {f S N last day : Nat} {c m c' m' : Mem} {z n k κ : Nat} {ln kl : Nat → Nat} (h : CUT d f S N last day c m z n k κ ln kl) (hk : k < n) (c6 : mI c' z 6 = mI c z 6) (m6 : mI m' 50 60 = mI m 50 60) (v1 : ∀ x, mI c' (z + 1) x = if x = κ then mI c (z + 1) k else mI c (z + 1) x) (v2 : ∀ x, mI c' (z + 2) x = if x = κ then mI c (z + 2) k else mI c (z + 2) x) (v4 : ∀ x, mJ c' (z + 4) x = if x = κ then mJ c (z + 4) k else mJ c (z + 4) x) (v5 : ∀ x, mJ c' (z + 5) x = if x = κ then mJ c (z + 5) k else mJ c (z + 5) x) (vm : ∀ x, mI m' 91 x = if x = κ then mI m 91 k else mI m 91 x) : CUT d f S N last day c' m' z n (k + 1) (κ + 1) ln (va_up kl κ (ln k)) := by
  obtain ⟨a1, a2, a3, a4, a5, a6, a7, a8, a9, a10, a11, a12⟩ := h
  refine ⟨by omega, by omega, a3, c6.trans a4, m6.trans a5, fun i hi => ?_, fun i h1 h2 => ?_, a8, a9, fun i j h1 h2 => ?_, fun i j h1 h2 => ?_, fun i j h1 h2 h3 => ?_⟩
  · by_cases e : i = κ
    · rw [e, va_up_self]
      exact (a7 k (Nat.le_refl _) hk).cg (by rw [v1, if_pos rfl]) (by rw [v2, if_pos rfl]) (by rw [v4, if_pos rfl]) (by rw [v5, if_pos rfl]) (by rw [vm, if_pos rfl])
    · rw [va_up_ne _ _ e]
      exact (a6 i (by omega)).cg (by rw [v1, if_neg e]) (by rw [v2, if_neg e]) (by rw [v4, if_neg e]) (by rw [v5, if_neg e]) (by rw [vm, if_neg e])
  · have e : i ≠ κ := by omega
    exact (a7 i (by omega) h2).cg (by rw [v1, if_neg e]) (by rw [v2, if_neg e]) (by rw [v4, if_neg e]) (by rw [v5, if_neg e]) (by rw [vm, if_neg e])
  · rw [va_up_ne _ _ (show i ≠ κ by omega)]
    by_cases e : j = κ
    · rw [e, va_up_self]; exact (a12 i k (by omega) (Nat.le_refl _) hk).1
    · rw [va_up_ne _ _ e]; exact a10 i j h1 (by omega)
  · rw [va_up_ne _ _ (show i ≠ κ by omega)]
    by_cases e : j = κ
    · rw [e, va_up_self]; exact (a12 i k (by omega) (Nat.le_refl _) hk).2
    · rw [va_up_ne _ _ e]; exact a11 i j h1 (by omega)
  · by_cases e : i = κ
    · rw [e, va_up_self]; exact ⟨a8 k j (by omega) h3, a9 k j (by omega) h3⟩
    · rw [va_up_ne _ _ e]; exact a12 i j (by omega) (by omega) h3
theorem sI_same {σ : Mem} {a j x : Nat} : mI (sI σ a j (mI σ a j)) a x = mI σ a x := by
  by_cases e : x = j
  · rw [e, mI_sI_e]
  · rw [mI_sI_j e]
theorem e_282 (F : Nat) (K : Mem → Int32 → Int32 → Int32 → Int32 → Option (Unit × Mem)) {m : Mem} (hM : shM m) (p1 lim : Int32) {k κ : Nat} (hk : k < 24) (hκ : κ ≤ k) : f_X11_results_b282 F K 50 m p1 lim (nI κ) (nI k) = K (sI m 91 κ (mI m 91 k)) p1 lim (nI (κ + 1)) (nI (k + 1)) := by
  have vk := vp_nI hk (show 24 < 2147483648 by decide)
  have nk := nI_cl (show k < 2147483648 by omega)
  have vκ := vp_nI (show κ < 24 by omega) (show 24 < 2147483648 by decide)
  have nκ := nI_cl (show κ < 2147483648 by omega)
  simp only [f_X11_results_b282, f_X11_results_b299, hM, vk, nk, vκ, nκ, nI_1, nx_eq, ck_true, br_true, br_false, bd_eq, de_eq, mN_sI_, mK_sI_, mL_sI_, mI_sI_ap, mJ_sI_, mR_sI_, mN_sJ_, mK_sJ_, mL_sJ_, mI_sJ_, mJ_sJ_ap, mR_sJ_, mN_sR_, mK_sR_, mL_sR_, mI_sR_, mJ_sR_, mR_sR_ap, Nat.reduceEqDiff, Nat.reduceAdd, ↓reduceIte, and_true, true_and, and_false, false_and, or_true, true_or, or_false, false_or, not_true_eq_false, not_false_eq_true, i10, i01, ii01, ii02, ii03, ii04, ii05, ii12, ii13, ii14, ii15, ii20, ii21, ii23, ii24, ii25, ii30, ii31, ii32, ii34, ii35, ii40, ii41, ii42, ii43, ii45, ii50, ii51, ii52, ii53, ii54, bi_z, Option.some.injEq, reduceCtorEq, Nat.reduceLeDiff]
/-- no limit: the reference copies each bird to its place -/
theorem lp_cut0 (F : Nat) (hF : 100 ≤ F) {d : Mem} {f S L N last day z n : Nat} {ln : Nat → Nat} {c : Mem} (hD : DF d f S L N) :
    ∀ j k M m, k + j = n → j < M → MF d m f S N → CUT d f S N last day c m z n k k ln ln → ∃ m', f_X11_results_b202 F 50 M m (nI f) (-1 : Int32) (nI k) (nI k) = f_X11_results_b314 F 50 F m' (nI f) (0 : Int32) ∧ frQ m m' ∧ mI m' 50 60 = nI n ∧ ∀ i, i < n → ent d f S N last day c m' z i (ln i) := by
  intro j
  induction j with
  | zero =>
    intro k M m hk hM2 hMF hC
    obtain ⟨M, rfl⟩ : ∃ x, M = x + 1 := ⟨M - 1, by omega⟩
    obtain rfl : k = n := by omega
    obtain ⟨a1, a2, a3, a4, a5, a6, a7, a8, a9, a10, a11, a12⟩ := hC
    have hM := hMF.1
    have q1 : nI k ≤ nI k := nI_le (Nat.le_refl _) (by omega)
    refine ⟨sI m 50 60 (nI k), ?_, frQ.sI (Or.inr (Or.inr (Or.inr ⟨rfl, rfl⟩))), mI_sI_e, fun i hi => (a6 i hi).cg rfl rfl rfl rfl (by rw [mI_sI_o (by decide)])⟩
    show f_X11_results_b202_it F (f_X11_results_b202 F 50 M) 50 m (nI f) (-1 : Int32) (nI k) (nI k) = _
    simp only [f_X11_results_b202_it, hM, a5, q1, nx_eq, ck_true, br_true, br_false, bd_eq, de_eq, mN_sI_, mK_sI_, mL_sI_, mI_sI_ap, mJ_sI_, mR_sI_, mN_sJ_, mK_sJ_, mL_sJ_, mI_sJ_, mJ_sJ_ap, mR_sJ_, mN_sR_, mK_sR_, mL_sR_, mI_sR_, mJ_sR_, mR_sR_ap, Nat.reduceEqDiff, Nat.reduceAdd, ↓reduceIte, and_true, true_and, and_false, false_and, or_true, true_or, or_false, false_or, not_true_eq_false, not_false_eq_true, i10, i01, ii01, ii02, ii03, ii04, ii05, ii12, ii13, ii14, ii15, ii20, ii21, ii23, ii24, ii25, ii30, ii31, ii32, ii34, ii35, ii40, ii41, ii42, ii43, ii45, ii50, ii51, ii52, ii53, ii54, bi_z, Option.some.injEq, reduceCtorEq, Nat.reduceLeDiff]
  | succ j ih =>
    intro k M m hk hM2 hMF hC
    obtain ⟨M, rfl⟩ : ∃ x, M = x + 1 := ⟨M - 1, by omega⟩
    have hC' := hC
    obtain ⟨a1, a2, a3, a4, a5, a6, a7, a8, a9, a10, a11, a12⟩ := hC
    have hM := hMF.1
    have hkn : k < n := by omega
    have q1 : ¬ nI n ≤ nI k := nI_ge hkn (by omega)
    have hent := a7 k (Nat.le_refl _) hkn
    have fq : frQ m (sI m 91 k (mI m 91 k)) := frQ.sI (Or.inr (Or.inl rfl))
    obtain ⟨m', w1, w2, w3, w4⟩ := ih (k + 1) M (sI m 91 k (mI m 91 k)) (by omega) (by omega) (hMF.cg fq.frR) ⟨by omega, by omega, a3, a4, by rw [mI_sI_o (by decide)]; exact a5, fun i hi => by
        by_cases e : i = k
        · rw [e]; exact (a7 k (Nat.le_refl _) hkn).cg rfl rfl rfl rfl sI_same
        · exact (a6 i (by omega)).cg rfl rfl rfl rfl sI_same, fun i h1 h2 => (a7 i (by omega) h2).cg rfl rfl rfl rfl sI_same, a8, a9, fun i j h1 h2 => a8 i j h1 (by omega), fun i j h1 h2 => a9 i j h1 (by omega), fun i j h1 h2 h3 => ⟨a8 i j (by omega) h3, a9 i j (by omega) h3⟩⟩
    refine ⟨m', ?_, fq.tr w2, w3, w4⟩
    rw [← w1]
    have e17 := lp_217 F (f_X11_results_b202 F 50 M) hD hMF (k := k) (κ := k) (kl := ln) (by omega) (by omega) (nI f) (-1 : Int32) hent.2.2.2.2.2.2.2 hent.1 (fun i hi => ⟨(a6 i hi).2.2.2.2.2.2.2, (a6 i hi).1⟩) k 0 F (by omega) (by omega)
    have e17' : f_X11_results_b217 F (f_X11_results_b202 F 50 M) 50 F m (nI f) (-1 : Int32) (nI k) (nI k) (0 : Int32) (0 : Int32) = _ := e17
    show f_X11_results_b202_it F (f_X11_results_b202 F 50 M) 50 m (nI f) (-1 : Int32) (nI k) (nI k) = _
    unfold f_X11_results_b202_it
    rw [ck_t (by simp only [hM]), a5, br_f1 q1, e17', br_t1 (show (-1 : Int32) < 0 by decide), e_282 F _ hM _ _ (by omega) (Nat.le_refl _)]
/-- a limit: class and reference keep the same birds -/
theorem lp_cut (F : Nat) (hF : 100 ≤ F) {d : Mem} {f q S L N last day z n t : Nat} {ln : Nat → Nat} (hD : DF d f S L N) (hz : z = 33 ∨ z = 40) (ht : t ≤ 99999) :
    ∀ j k M M' c m κ kl, k + j = n → j < M → j < M' → CF d c f q S L N → MF d m f S N → CUT d f S N last day c m z n k κ ln kl → (∀ l, l < 8 → mI c (z + 6) l = nI (cnt d kl l κ)) →
      ∃ c' m' n' kl', f_X5_cutLofts_b19 F z M c (nI t) (some 26) (nI κ) (nI k) = some ((), c') ∧ f_X11_results_b202 F 50 M' m (nI f) (nI t) (nI κ) (nI k) = f_X11_results_b314 F 50 F m' (nI f) (0 : Int32) ∧ frZ z c c' ∧ frQ m m' ∧ mI c' z 6 = nI n' ∧ mI m' 50 60 = nI n' ∧ n' ≤ 24 ∧ (∀ i, i < n' → ent d f S N last day c' m' z i (kl' i)) ∧ DST n' kl' ∧ SRT d f S last day n' kl' := by
  intro j
  induction j with
  | zero =>
    intro k M M' c m κ kl hk hM1 hM2 hCF hMF hC ho
    obtain ⟨M, rfl⟩ : ∃ x, M = x + 1 := ⟨M - 1, by omega⟩
    obtain ⟨M', rfl⟩ : ∃ x, M' = x + 1 := ⟨M' - 1, by omega⟩
    obtain rfl : k = n := by omega
    obtain ⟨a1, a2, a3, a4, a5, a6, a7, a8, a9, a10, a11, a12⟩ := hC
    have hM := hMF.1
    have kz : mK c z = 6 := (hCF.1.rk hz).1
    have q1 : nI k ≤ nI k := nI_le (Nat.le_refl _) (by omega)
    refine ⟨sI c z 6 (nI κ), sI m 50 60 (nI κ), κ, kl, ?_, ?_, frZ.sI (by omega) (by omega), frQ.sI (Or.inr (Or.inr (Or.inr ⟨rfl, rfl⟩))), mI_sI_e, mI_sI_e, by omega, fun i hi => (a6 i hi).cg (by rw [mI_sI_o (by omega)]) (by rw [mI_sI_o (by omega)]) rfl rfl (by rw [mI_sI_o (by decide)]), a10, a11⟩
    · show f_X5_cutLofts_b19_it F (f_X5_cutLofts_b19 F z M) z c (nI t) (some 26) (nI κ) (nI k) = _
      simp only [f_X5_cutLofts_b19_it, kz, a4, q1, nx_eq, ck_true, br_true, br_false, bd_eq, de_eq, mN_sI_, mK_sI_, mL_sI_, mI_sI_ap, mJ_sI_, mR_sI_, mN_sJ_, mK_sJ_, mL_sJ_, mI_sJ_, mJ_sJ_ap, mR_sJ_, mN_sR_, mK_sR_, mL_sR_, mI_sR_, mJ_sR_, mR_sR_ap, Nat.reduceEqDiff, Nat.reduceAdd, ↓reduceIte, and_true, true_and, and_false, false_and, or_true, true_or, or_false, false_or, not_true_eq_false, not_false_eq_true, i10, i01, ii01, ii02, ii03, ii04, ii05, ii12, ii13, ii14, ii15, ii20, ii21, ii23, ii24, ii25, ii30, ii31, ii32, ii34, ii35, ii40, ii41, ii42, ii43, ii45, ii50, ii51, ii52, ii53, ii54, bi_z, Option.some.injEq, reduceCtorEq, Nat.reduceLeDiff]
    · show f_X11_results_b202_it F (f_X11_results_b202 F 50 M') 50 m (nI f) (nI t) (nI κ) (nI k) = _
      simp only [f_X11_results_b202_it, hM, a5, q1, nx_eq, ck_true, br_true, br_false, bd_eq, de_eq, mN_sI_, mK_sI_, mL_sI_, mI_sI_ap, mJ_sI_, mR_sI_, mN_sJ_, mK_sJ_, mL_sJ_, mI_sJ_, mJ_sJ_ap, mR_sJ_, mN_sR_, mK_sR_, mL_sR_, mI_sR_, mJ_sR_, mR_sR_ap, Nat.reduceEqDiff, Nat.reduceAdd, ↓reduceIte, and_true, true_and, and_false, false_and, or_true, true_or, or_false, false_or, not_true_eq_false, not_false_eq_true, i10, i01, ii01, ii02, ii03, ii04, ii05, ii12, ii13, ii14, ii15, ii20, ii21, ii23, ii24, ii25, ii30, ii31, ii32, ii34, ii35, ii40, ii41, ii42, ii43, ii45, ii50, ii51, ii52, ii53, ii54, bi_z, Option.some.injEq, reduceCtorEq, Nat.reduceLeDiff]
  | succ j ih =>
    intro k M M' c m κ kl hk hM1 hM2 hCF hMF hC ho
    obtain ⟨M, rfl⟩ : ∃ x, M = x + 1 := ⟨M - 1, by omega⟩
    obtain ⟨M', rfl⟩ : ∃ x, M' = x + 1 := ⟨M' - 1, by omega⟩
    have hC' := hC
    obtain ⟨a1, a2, a3, a4, a5, a6, a7, a8, a9, a10, a11, a12⟩ := hC
    have hM := hMF.1
    have hcC := hCF.1
    have hR := hcC.rk hz
    obtain ⟨r1, r2, r3, r4, r5, r6, r7, r8, r9, r10, r11, r12, r13, r14, r15, r16, r17, r18, r19⟩ := id hR
    have hkn : k < n := by omega
    have hL := hD.2.2.1
    have q1 : ¬ nI n ≤ nI k := nI_ge hkn (by omega)
    have hent := a7 k (Nat.le_refl _) hkn
    obtain ⟨n1, -, -, n4, -, -, -, n8⟩ := id hent
    have lo := (hD.2.2.2.2.2.2.2.2.1 _ n1).1
    have eL := e_loftOf F hD hCF n1
    have vk := vp_nI (show k < 24 by omega) (show 24 < 2147483648 by decide)
    have nk := nI_cl (show k < 2147483648 by omega)
    have vl1 := vp_nI (show zl d (ln k) < 8 by omega) (show 8 < 2147483648 by decide)
    have nl1 := nI_cl (show zl d (ln k) < 2147483648 by omega)
    have g1 : ¬ nI (zl d (ln k)) < 0 := nI_pos (by omega)
    have g2 : ¬ (8 : Int32) ≤ nI (zl d (ln k)) := nI_ge (b := 8) (by omega) (by decide)
    have o1 := ho (zl d (ln k)) (by omega)
    have cl := cnt_le d kl (zl d (ln k)) κ
    have e17 := lp_217 F (f_X11_results_b202 F 50 M') hD hMF (k := k) (κ := κ) (kl := kl) (by omega) (by omega) (nI f) (nI t) n8 n1 (fun i hi => ⟨(a6 i hi).2.2.2.2.2.2.2, (a6 i hi).1⟩) κ 0 F (by omega) (by omega)
    have e17' : f_X11_results_b217 F (f_X11_results_b202 F 50 M') 50 F m (nI f) (nI t) (nI κ) (nI k) (0 : Int32) (0 : Int32) = _ := e17
    have t0 : ¬ nI t < 0 := nI_pos (by omega)
    by_cases e : t ≤ cnt d kl (zl d (ln k)) κ
    · have e1 : nI t ≤ nI (cnt d kl (zl d (ln k)) κ) := nI_le e (by omega)
      have e2 : ¬ nI (cnt d kl (zl d (ln k)) κ) < nI t := nI_nlt e (by omega)
      obtain ⟨c', m', n', kl', w1, w2, w3⟩ := ih (k + 1) M M' c m κ kl (by omega) (by omega) (by omega) hCF hMF (hC'.skip hkn) ho
      refine ⟨c', m', n', kl', ?_, ?_, w3⟩
      · show f_X5_cutLofts_b19_it F (f_X5_cutLofts_b19 F z M) z c (nI t) (some 26) (nI κ) (nI k) = _
        simp only [f_X5_cutLofts_b19_it, f_X5_cutLofts_b86, r1, r2, r7, r8, r13, r14, r19, a4, q1, vk, nk, n4, hcC, eL, g1, g2, vl1, nl1, o1, e1, nI_1, w1, nx_eq, ck_true, br_true, br_false, bd_eq, de_eq, mN_sI_, mK_sI_, mL_sI_, mI_sI_ap, mJ_sI_, mR_sI_, mN_sJ_, mK_sJ_, mL_sJ_, mI_sJ_, mJ_sJ_ap, mR_sJ_, mN_sR_, mK_sR_, mL_sR_, mI_sR_, mJ_sR_, mR_sR_ap, Nat.reduceEqDiff, Nat.reduceAdd, ↓reduceIte, and_true, true_and, and_false, false_and, or_true, true_or, or_false, false_or, not_true_eq_false, not_false_eq_true, i10, i01, ii01, ii02, ii03, ii04, ii05, ii12, ii13, ii14, ii15, ii20, ii21, ii23, ii24, ii25, ii30, ii31, ii32, ii34, ii35, ii40, ii41, ii42, ii43, ii45, ii50, ii51, ii52, ii53, ii54, bi_z, Option.some.injEq, reduceCtorEq, Nat.reduceLeDiff]
      · show f_X11_results_b202_it F (f_X11_results_b202 F 50 M') 50 m (nI f) (nI t) (nI κ) (nI k) = _
        unfold f_X11_results_b202_it
        rw [ck_t (by simp only [hM]), a5, br_f1 q1, e17', br_f1 t0, br_f1 e2]
        unfold f_X11_results_b299
        rw [nx_eq, nI_1]
        exact w2
    · have e1 : ¬ nI t ≤ nI (cnt d kl (zl d (ln k)) κ) := nI_ge (by omega) (by omega)
      have e2 : nI (cnt d kl (zl d (ln k)) κ) < nI t := nI_lt (by omega) (by omega)
      have hR1 : shR (sI c (z + 6) (zl d (ln k)) (nI (cnt d kl (zl d (ln k)) κ + 1))) z := hR
      obtain ⟨c2, v1, v2, v3, v4, v5, v6, v7, v8, v9⟩ := e_move F hR1 (show k < 24 by omega) (show κ < 24 by omega)
      have fz : frZ z c c2 := (frZ.sI (by omega) (by omega)).tr v2
      have fq : frQ m (sI m 91 κ (mI m 91 k)) := frQ.sI (Or.inr (Or.inl rfl))
      have hT : CUT d f S N last day c2 (sI m 91 κ (mI m 91 k)) z n (k + 1) (κ + 1) ln (va_up kl κ (ln k)) := hC'.take hkn (by rw [v3, mI_sI_o (by omega)]) (by rw [mI_sI_o (by decide)]) (fun x => by rw [v5, mI_sI_o (by omega)]) (fun x => by rw [v6, mI_sI_o (by omega)]) (fun x => by rw [v8]; rfl) (fun x => by rw [v9]; rfl) (fun x => by rw [mI_sI_ap]; simp only [true_and])
      obtain ⟨c', m', n', kl', w1, w2, w3, w4, w5⟩ := ih (k + 1) M M' c2 (sI m 91 κ (mI m 91 k)) (κ + 1) (va_up kl κ (ln k)) (by omega) (by omega) (by omega) (hCF.cg (fz.frK hz)) (hMF.cg fq.frR) hT (fun l hl => by
          show _ = nI (cnt d (va_up kl κ (ln k)) l κ + if zl d (va_up kl κ (ln k) κ) = l then 1 else 0)
          rw [v4, va_up_self, cnt_ext d (va_up kl κ (ln k)) kl l κ (fun i hi => va_up_ne _ _ (by omega))]
          by_cases e3 : l = zl d (ln k)
          · rw [e3, mI_sI_e, if_pos rfl]
          · rw [mI_sI_j e3, if_neg (fun y => e3 y.symm)]; exact ho l hl)
      refine ⟨c', m', n', kl', ?_, ?_, fz.tr w3, fq.tr w4, w5⟩
      · show f_X5_cutLofts_b19_it F (f_X5_cutLofts_b19 F z M) z c (nI t) (some 26) (nI κ) (nI k) = _
        simp only [f_X5_cutLofts_b19_it, f_X5_cutLofts_b86, r1, r2, r7, r8, r13, r14, r19, a4, q1, vk, nk, n4, hcC, eL, g1, g2, vl1, nl1, o1, e1, nI_1, v1, w1, nx_eq, ck_true, br_true, br_false, bd_eq, de_eq, mN_sI_, mK_sI_, mL_sI_, mI_sI_ap, mJ_sI_, mR_sI_, mN_sJ_, mK_sJ_, mL_sJ_, mI_sJ_, mJ_sJ_ap, mR_sJ_, mN_sR_, mK_sR_, mL_sR_, mI_sR_, mJ_sR_, mR_sR_ap, Nat.reduceEqDiff, Nat.reduceAdd, ↓reduceIte, and_true, true_and, and_false, false_and, or_true, true_or, or_false, false_or, not_true_eq_false, not_false_eq_true, i10, i01, ii01, ii02, ii03, ii04, ii05, ii12, ii13, ii14, ii15, ii20, ii21, ii23, ii24, ii25, ii30, ii31, ii32, ii34, ii35, ii40, ii41, ii42, ii43, ii45, ii50, ii51, ii52, ii53, ii54, bi_z, Option.some.injEq, reduceCtorEq, Nat.reduceLeDiff]
      · show f_X11_results_b202_it F (f_X11_results_b202 F 50 M') 50 m (nI f) (nI t) (nI κ) (nI k) = _
        unfold f_X11_results_b202_it
        rw [ck_t (by simp only [hM]), a5, br_f1 q1, e17', br_f1 t0, br_t1 e2, e_282 F _ hM _ _ (by omega) a1]
        exact w2
theorem e_cut (F : Nat) (hF : 100 ≤ F) {d : Mem} {f q S L N last day z n : Nat} {ln : Nat → Nat} (hD : DF d f S L N) (hz : z = 33 ∨ z = 40) {c m : Mem} (hCF : CF d c f q S L N) (hMF : MF d m f S N) {p : Int32} (hp : p = -1 ∨ rg 99999 p) (hn : n ≤ 24) (c6 : mI c z 6 = nI n) (m6 : mI m 50 60 = nI n) (hent : ∀ i, i < n → ent d f S N last day c m z i (ln i)) (hdst : DST n ln) (hsrt : SRT d f S last day n ln) :
    ∃ c' m' n' kl', f_X5_cutLofts F c z p (some 26) = some ((), c') ∧ f_X11_results_b202 F 50 F m (nI f) p (0 : Int32) (0 : Int32) = f_X11_results_b314 F 50 F m' (nI f) (0 : Int32) ∧ frZ z c c' ∧ frQ m m' ∧ mI c' z 6 = nI n' ∧ mI m' 50 60 = nI n' ∧ n' ≤ 24 ∧ (∀ i, i < n' → ent d f S N last day c' m' z i (kl' i)) ∧ DST n' kl' ∧ SRT d f S last day n' kl' := by
  rcases hp with rfl | ⟨t, t1, rfl⟩
  · have hC0 : CUT d f S N last day c m z n 0 0 ln ln := ⟨Nat.le_refl _, by omega, hn, c6, m6, fun i hi => absurd hi (by omega), fun i _ h2 => hent i h2, hdst, hsrt, fun i j h1 h2 => absurd h2 (by omega), fun i j h1 h2 => absurd h2 (by omega), fun i j h1 => absurd h1 (by omega)⟩
    obtain ⟨m', w1, w2, w3, w4⟩ := lp_cut0 F hF hD n 0 F m (by omega) (by omega) hMF hC0
    refine ⟨c, m', n, ln, ?_, w1, frZ.rf z c, w2, c6, w3, hn, w4, hdst, hsrt⟩
    simp only [f_X5_cutLofts, nx_eq, ck_true, br_true, br_false, bd_eq, de_eq, mN_sI_, mK_sI_, mL_sI_, mI_sI_ap, mJ_sI_, mR_sI_, mN_sJ_, mK_sJ_, mL_sJ_, mI_sJ_, mJ_sJ_ap, mR_sJ_, mN_sR_, mK_sR_, mL_sR_, mI_sR_, mJ_sR_, mR_sR_ap, Nat.reduceEqDiff, Nat.reduceAdd, ↓reduceIte, and_true, true_and, and_false, false_and, or_true, true_or, or_false, false_or, not_true_eq_false, not_false_eq_true, i10, i01, ii01, ii02, ii03, ii04, ii05, ii12, ii13, ii14, ii15, ii20, ii21, ii23, ii24, ii25, ii30, ii31, ii32, ii34, ii35, ii40, ii41, ii42, ii43, ii45, ii50, ii51, ii52, ii53, ii54, bi_z, Option.some.injEq, reduceCtorEq, Nat.reduceLeDiff]
  · have hR := hCF.1.rk hz
    obtain ⟨r1, r2, r3, r4, r5, r6, r7, r8, r9, r10, r11, r12, r13, r14, r15, r16, r17, r18, r19⟩ := id hR
    have eF := e_fill F (σ := c) (x := z + 6) 0 r13 r19 (by omega) (by decide)
    have fz : frZ z c (wI c (z + 6) (fun i => if i < 8 then 0 else mI c (z + 6) i)) := ⟨rfl, rfl, rfl, rfl, fun x hx => mI_wI_o (by omega), fun _ _ => rfl⟩
    have n1 : ¬ nI t = (-1 : Int32) := fun e => absurd (nI_pos (n := t) (by omega)) (by rw [e]; decide)
    have hC0 : CUT d f S N last day (wI c (z + 6) (fun i => if i < 8 then 0 else mI c (z + 6) i)) m z n 0 0 ln ln := ⟨Nat.le_refl _, by omega, hn, by rw [mI_wI_o (by omega)]; exact c6, m6, fun i hi => absurd hi (by omega), fun i _ h2 => (hent i h2).cg (by rw [mI_wI_o (by omega)]) (by rw [mI_wI_o (by omega)]) rfl rfl rfl, hdst, hsrt, fun i j h1 h2 => absurd h2 (by omega), fun i j h1 h2 => absurd h2 (by omega), fun i j h1 => absurd h1 (by omega)⟩
    obtain ⟨c', m', n', kl', w1, w2, w3, w4, w5⟩ := lp_cut F hF hD hz t1 n 0 F F (wI c (z + 6) (fun i => if i < 8 then 0 else mI c (z + 6) i)) m 0 ln (by omega) (by omega) (by omega) (hCF.cg (fz.frK hz)) hMF hC0 (fun l hl => by rw [mI_wI_e, if_pos hl]; rfl)
    refine ⟨c', m', n', kl', ?_, w2, fz.tr w3, w4, w5⟩
    have w1' : f_X5_cutLofts_b19 F z F (wI c (z + 6) (fun i => if i < 8 then 0 else mI c (z + 6) i)) (nI t) (some 26) (0 : Int32) (0 : Int32) = some ((), c') := w1
    simp only [f_X5_cutLofts, n1, r1, r7, eF, w1', nx_eq, ck_true, br_true, br_false, bd_eq, de_eq, mN_sI_, mK_sI_, mL_sI_, mI_sI_ap, mJ_sI_, mR_sI_, mN_sJ_, mK_sJ_, mL_sJ_, mI_sJ_, mJ_sJ_ap, mR_sJ_, mN_sR_, mK_sR_, mL_sR_, mI_sR_, mJ_sR_, mR_sR_ap, Nat.reduceEqDiff, Nat.reduceAdd, ↓reduceIte, and_true, true_and, and_false, false_and, or_true, true_or, or_false, false_or, not_true_eq_false, not_false_eq_true, i10, i01, ii01, ii02, ii03, ii04, ii05, ii12, ii13, ii14, ii15, ii20, ii21, ii23, ii24, ii25, ii30, ii31, ii32, ii34, ii35, ii40, ii41, ii42, ii43, ii45, ii50, ii51, ii52, ii53, ii54, bi_z, Option.some.injEq, reduceCtorEq, Nat.reduceLeDiff]
